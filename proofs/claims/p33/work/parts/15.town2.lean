theorem mw_code_X8_waysWithin : (Cond.code yX8_waysWithin cX8_waysWithin 8 (some .int) : Cond) ∈ cw := cw_of (List.mem_append_right _ (List.mem_append_right _ (List.mem_append_right _ (List.mem_append_left _ (List.mem_of_getElem? (i := 159) rfl))))) (by decide +kernel)
theorem mw_inst_X8_waysWithin : (Cond.instanceMethod yX8_waysWithin : Cond) ∈ cw := cw_of (List.mem_append_right _ (List.mem_append_right _ (List.mem_append_right _ (List.mem_append_left _ (List.mem_of_getElem? (i := 157) (by decide +kernel)))))) (by decide +kernel)
theorem mw_ml_8_79 : (Cond.methodLink RX8 79 yX8_waysWithin : Cond) ∈ cw := cw_of (List.mem_append_right _ (List.mem_append_right _ (List.mem_append_right _ (List.mem_append_left _ (List.mem_of_getElem? (i := 156) (by decide +kernel)))))) (by decide +kernel)
theorem mw_sel_X8_waysWithin : (Cond.selects RX8 yX8_waysWithin yX8_waysWithin : Cond) ∈ cw := cw_of (List.mem_append_right _ (List.mem_append_right _ (List.mem_append_right _ (List.mem_append_left _ (List.mem_of_getElem? (i := 158) (by decide +kernel)))))) (by decide +kernel)
theorem dX8_measure_0 : decode cX8_measure 0 = .ok (.iconst 0, 1) := by decide +kernel
theorem dX8_measure_1 : decode cX8_measure 1 = .ok (.istore_n 1, 1) := by decide +kernel
theorem dX8_measure_2 : decode cX8_measure 2 = .ok (.iload_n 1, 1) := by decide +kernel
theorem dX8_measure_3 : decode cX8_measure 3 = .ok (.aload_n 0, 1) := by decide +kernel
theorem dX8_measure_4 : decode cX8_measure 4 = .ok (.getfield 9, 3) := by decide +kernel
theorem dX8_measure_7 : decode cX8_measure 7 = .ok (.if_icmp .ge 43, 3) := by decide +kernel
theorem dX8_measure_10 : decode cX8_measure 10 = .ok (.iconst 0, 1) := by decide +kernel
theorem dX8_measure_11 : decode cX8_measure 11 = .ok (.istore_n 2, 1) := by decide +kernel
theorem dX8_measure_12 : decode cX8_measure 12 = .ok (.iload_n 2, 1) := by decide +kernel
theorem dX8_measure_13 : decode cX8_measure 13 = .ok (.aload_n 0, 1) := by decide +kernel
theorem dX8_measure_14 : decode cX8_measure 14 = .ok (.getfield 9, 3) := by decide +kernel
theorem dX8_measure_17 : decode cX8_measure 17 = .ok (.if_icmp .ge 27, 3) := by decide +kernel
theorem dX8_measure_20 : decode cX8_measure 20 = .ok (.aload_n 0, 1) := by decide +kernel
theorem dX8_measure_21 : decode cX8_measure 21 = .ok (.getfield 44, 3) := by decide +kernel
theorem dX8_measure_24 : decode cX8_measure 24 = .ok (.iload_n 1, 1) := by decide +kernel
theorem dX8_measure_25 : decode cX8_measure 25 = .ok (.bipush 8, 2) := by decide +kernel
theorem dX8_measure_27 : decode cX8_measure 27 = .ok (.imul, 1) := by decide +kernel
theorem dX8_measure_28 : decode cX8_measure 28 = .ok (.iload_n 2, 1) := by decide +kernel
theorem dX8_measure_29 : decode cX8_measure 29 = .ok (.iadd, 1) := by decide +kernel
theorem dX8_measure_30 : decode cX8_measure 30 = .ok (.aload_n 0, 1) := by decide +kernel
theorem dX8_measure_31 : decode cX8_measure 31 = .ok (.iload_n 1, 1) := by decide +kernel
theorem dX8_measure_32 : decode cX8_measure 32 = .ok (.iload_n 2, 1) := by decide +kernel
theorem dX8_measure_33 : decode cX8_measure 33 = .ok (.iconst (-1), 1) := by decide +kernel
theorem dX8_measure_34 : decode cX8_measure 34 = .ok (.invokevirtual 79, 3) := by decide +kernel
theorem dX8_measure_37 : decode cX8_measure 37 = .ok (.iastore, 1) := by decide +kernel
theorem dX8_measure_38 : decode cX8_measure 38 = .ok (.iinc 2 1, 3) := by decide +kernel
theorem dX8_measure_41 : decode cX8_measure 41 = .ok (.goto (-29), 3) := by decide +kernel
theorem dX8_measure_44 : decode cX8_measure 44 = .ok (.iinc 1 1, 3) := by decide +kernel
theorem dX8_measure_47 : decode cX8_measure 47 = .ok (.goto (-45), 3) := by decide +kernel
theorem dX8_measure_50 : decode cX8_measure 50 = .ok (.return_, 1) := by decide +kernel
theorem hd_X8_waysWithin : yX8_waysWithin.cls ≠ "java/lang/invoke/MethodHandle" ∧ yX8_waysWithin.cls ≠ "java/lang/invoke/VarHandle" ∧ (parseMethodDescriptor yX8_waysWithin.desc).map (fun d => d.parameters.length) = some 3 := ⟨by decide +kernel, by decide +kernel, by decide +kernel⟩
set_option maxHeartbeats 4000000 in
set_option maxRecDepth 100000 in
theorem t_measure (l : Launch) (D : va_G) (K : Nat → ClassId) (ad : Nat → Nat) (z : TS) (o : Ok z) (p0 : Nat) (ap0 : at_ 8 p0 = true) : cV l yX8_measure cX8_measure 3 ({ frames := 1, cells := 0, slots := 0, locals := 27 }) D K ad z [.ref (ad p0)] (fun u => Ok u ∧ KC z u) := by
  refine t_enterV (by decide) (Nat.le_of_ble_eq_true rfl) rfl rfl ?_
  intro p e s m args below meth c A R Q H locs ls E hfr hlo RET G hl
  have E : mE p s m meth c cX8_measure args 3 RX8 D K A := E
  have hl : lv_has ls 3 [(0, .ref (ad p0))] := hl
  refine lv_iconst (v := 0) E.1 E.2.1 dX8_measure_0 (by decide) ?_
  refine lv_istore_n (lv' := [(1, .int 0), (0, .ref (ad p0))]) E.1 E.2.1 dX8_measure_1 rfl hl (by decide) rfl (fun ls hl => ?_)
  have LOOP2 : ∀ n : Nat, ∀ (zz2 : TS) (y1 : Int32) (H : Heap) (locs : List Loc) (ls : Array Slot), mG D A s H locs (wd K ad zz2) → Ok zz2 → KC z zz2 → iv 0 8 y1 → 8 < y1.toInt + (n : Int) → lv_has ls 3 [(1, .int y1), (0, .ref (ad p0))] → W p l e R s m args below meth c H locs 0 0 Q (F0 m 2 ls []) := by
    intro n
    induction n with
    | zero =>
      intro zz2 y1 H locs ls G oo3 kk4 b6 m5 hl
      exact absurd m5 (by have := b6.1; have := b6.2; omega)
    | succ n ih2 =>
      intro zz2 y1 H locs ls G oo3 kk4 b6 m5 hl
      refine lv_iload_n E.1 E.2.1 dX8_measure_2 rfl (lv_at hl 0 rfl) ?_
      refine lv_aload_n E.1 E.2.1 dX8_measure_3 rfl (lv_at hl 1 rfl) ?_
      refine t_get E G 8 0 (at_ro (i := 0) ap0 (by decide) : ro p0 = 8) (C := RX8) (T := TX8) (N := 10) rfl (by decide) (by decide) (by decide) mw_fl_8_9 (fvl_i rfl) dX8_measure_4 ?_
      refine lv_topi (fun v7 e8 => ?_)
      have b9 : iv 0 8 v7 := by rw [e8]; exact oo3.i 8 0 (at_ro (i := 0) ap0 (by decide) : ro p0 = 8)
      refine lv_icmp_ge (tgt := 50) E.1 E.2.1 dX8_measure_7 (by decide) (fun c10 => ?_) (fun c10 => ?_)
      · skip
        exact RET G ⟨oo3, kk4⟩ dX8_measure_50
      · skip
        have b11 : iv 0 7 y1 := lt_l (Int32.not_le.mp c10) b6 b9 (by decide)
        have b12 : iv 1 8 v7 := lt_r (Int32.not_le.mp c10) b6 b9 (by decide)
        refine lv_iconst (v := 0) E.1 E.2.1 dX8_measure_10 (by decide) ?_
        refine lv_istore_n (lv' := [(2, .int 0), (1, .int y1), (0, .ref (ad p0))]) E.1 E.2.1 dX8_measure_11 rfl hl (by decide) rfl (fun ls hl => ?_)
        have LOOP12 : ∀ n : Nat, ∀ (zz14 : TS) (y13 : Int32) (H : Heap) (locs : List Loc) (ls : Array Slot), mG D A s H locs (wd K ad zz14) → Ok zz14 → KC z zz14 → iv 0 8 y13 → 8 < y13.toInt + (n : Int) → lv_has ls 3 [(2, .int y13), (1, .int y1), (0, .ref (ad p0))] → W p l e R s m args below meth c H locs 0 0 Q (F0 m 12 ls []) := by
          intro n
          induction n with
          | zero =>
            intro zz14 y13 H locs ls G oo15 kk16 b18 m17 hl
            exact absurd m17 (by have := b18.1; have := b18.2; omega)
          | succ n ih12 =>
            intro zz14 y13 H locs ls G oo15 kk16 b18 m17 hl
            refine lv_iload_n E.1 E.2.1 dX8_measure_12 rfl (lv_at hl 0 rfl) ?_
            refine lv_aload_n E.1 E.2.1 dX8_measure_13 rfl (lv_at hl 2 rfl) ?_
            refine t_get E G 8 0 (at_ro (i := 0) ap0 (by decide) : ro p0 = 8) (C := RX8) (T := TX8) (N := 10) rfl (by decide) (by decide) (by decide) mw_fl_8_9 (fvl_i rfl) dX8_measure_14 ?_
            refine lv_topi (fun v19 e20 => ?_)
            have b21 : iv 0 8 v19 := by rw [e20]; exact oo15.i 8 0 (at_ro (i := 0) ap0 (by decide) : ro p0 = 8)
            refine lv_icmp_ge (tgt := 44) E.1 E.2.1 dX8_measure_17 (by decide) (fun c22 => ?_) (fun c22 => ?_)
            · skip
              obtain ⟨v23, e24⟩ : ∃ w : Int32, w = y1 + (1 : Int32) := ⟨_, rfl⟩
              refine lv_iinc (v := v23) (lv' := [(1, .int v23), (2, .int y13), (0, .ref (ad p0))]) E.1 E.2.1 dX8_measure_44 hl (k := 1) rfl (by rw [e24]; rfl) (by decide) rfl (fun ls hl => ?_)
              have b25 : iv 1 8 v23 := by rw [e24]; exact iv_add b11 (iv_lit (lo := 1) (hi := 1) 1 (by decide) (by decide)) (by decide) (by decide) (by decide) (by decide)
              have t26 : v23.toInt = y1.toInt + 1 := by rw [e24]; exact ti_addc 1 (by decide) b11 (by decide) (by decide)
              refine lv_goto (tgt := 2) E.1 E.2.1 dX8_measure_47 (by decide) ?_
              exact ih2 zz14 v23 H locs ls G oo15 kk16 (iv_mono b25 (by decide) (by decide)) (by have := t26; have := m5; omega) (lv_sub hl [0, 2] rfl)
            · skip
              have b27 : iv 0 7 y13 := lt_l (Int32.not_le.mp c22) b18 b21 (by decide)
              have b28 : iv 1 8 v19 := lt_r (Int32.not_le.mp c22) b18 b21 (by decide)
              refine lv_aload_n E.1 E.2.1 dX8_measure_20 rfl (lv_at hl 2 rfl) ?_
              refine t_get E G 8 9 (at_ro (i := 0) ap0 (by decide) : ro p0 = 8) (C := RX8) (T := TX8) (N := 10) rfl (by decide) (by decide) (by decide) mw_fl_8_44 (v := .ref (ad (p0 + 12))) (fvl_o (n := 12) rfl) dX8_measure_21 ?_
              refine lv_iload_n E.1 E.2.1 dX8_measure_24 rfl (lv_at hl 1 rfl) ?_
              refine lv_bipush (v := 8) E.1 E.2.1 dX8_measure_25 (by decide) ?_
              refine lv_imul E.1 E.2.1 dX8_measure_27 ?_
              refine lv_topi (fun v29 e30 => ?_)
              have b31 : iv 0 56 v29 := by rw [e30]; exact iv_mulc b11 8 (by decide) (by decide) (by decide) (by decide) (by decide) (by decide)
              refine lv_iload_n E.1 E.2.1 dX8_measure_28 rfl (lv_at hl 0 rfl) ?_
              refine lv_iadd E.1 E.2.1 dX8_measure_29 ?_
              refine lv_topi (fun v32 e33 => ?_)
              have b34 : iv 0 63 v32 := by rw [e33]; exact iv_add b31 b27 (by decide) (by decide) (by decide) (by decide)
              refine lv_aload_n E.1 E.2.1 dX8_measure_30 rfl (lv_at hl 2 rfl) ?_
              refine lv_iload_n E.1 E.2.1 dX8_measure_31 rfl (lv_at hl 1 rfl) ?_
              refine lv_iload_n E.1 E.2.1 dX8_measure_32 rfl (lv_at hl 0 rfl) ?_
              refine lv_iconst (v := (-1)) E.1 E.2.1 dX8_measure_33 (by decide) ?_
              refine t_vi E G hl (t_within l D K ad zz14 oo15 p0 ap0 y1 y13 (-1 : Int32)) 8 (at_ro (i := 0) ap0 (by decide) : ro p0 = 8) (by decide) rfl rfl 3 rfl mw_code_X8_waysWithin mw_ini_8 mw_ml_8_79 mw_inst_X8_waysWithin mw_sel_X8_waysWithin hd_X8_waysWithin ⟨Nat.le_trans (by decide) hfr, Nat.le_trans (by decide) hlo⟩ rfl rfl rfl (Nat.le_of_ble_eq_true rfl) dX8_measure_34 (fun r36 zz35 H locs hp37 G => ?_)
              obtain ⟨hz39, b38⟩ := hp37
              rw [hz39] at G
              refine t_iast E G 26 (at_ro (i := 12) ap0 (by decide) : ro (p0 + 12) = 26) (by decide) (by decide) rfl (n := 64) rfl (iv_vp b34 (by decide) (by decide)) dX8_measure_37 (fun H locs G => ?_)
              obtain ⟨zz40, G, oo41, kk42, h43⟩ : ∃ u : TS, mG D A s H locs (wd K ad u) ∧ Ok u ∧ KC z u ∧ tI u p0 0 = v19 := ⟨_, G, ok_uc oo15 26 (at_ro (i := 12) ap0 (by decide) : ro (p0 + 12) = 26) (by decide) (iv_mono b38 (by decide) (by decide)) (by decide), KC.tr kk16 (KC_r 26 (at_ro (i := 12) ap0 (by decide) : ro (p0 + 12) = 26) (by decide)), e20.symm⟩
              obtain ⟨v44, e45⟩ : ∃ w : Int32, w = y13 + (1 : Int32) := ⟨_, rfl⟩
              refine lv_iinc (v := v44) (lv' := [(2, .int v44), (1, .int y1), (0, .ref (ad p0))]) E.1 E.2.1 dX8_measure_38 hl (k := 0) rfl (by rw [e45]; rfl) (by decide) rfl (fun ls hl => ?_)
              have b46 : iv 1 8 v44 := by rw [e45]; exact iv_add b27 (iv_lit (lo := 1) (hi := 1) 1 (by decide) (by decide)) (by decide) (by decide) (by decide) (by decide)
              have t47 : v44.toInt = y13.toInt + 1 := by rw [e45]; exact ti_addc 1 (by decide) b27 (by decide) (by decide)
              refine lv_goto (tgt := 12) E.1 E.2.1 dX8_measure_41 (by decide) ?_
              exact ih12 zz40 v44 H locs ls G oo41 kk42 (iv_mono b46 (by decide) (by decide)) (by have := t47; have := m17; omega) (lv_sub hl [0, 1, 2] rfl)
        exact LOOP12 9 zz2 0 H locs ls G oo3 kk4 (iv_mono (iv_lit (lo := 0) (hi := 0) 0 (by decide) (by decide)) (by decide) (by decide)) (by have := (iv_lit (lo := 0) (hi := 0) 0 (by decide) (by decide)).1; omega) (lv_sub hl [0, 1, 2] rfl)
  exact LOOP2 9 z 0 H locs ls G o KC.rf (iv_mono (iv_lit (lo := 0) (hi := 0) 0 (by decide) (by decide)) (by decide) (by decide)) (by have := (iv_lit (lo := 0) (hi := 0) 0 (by decide) (by decide)).1; omega) (lv_sub hl [0, 1] rfl)
