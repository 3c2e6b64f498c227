theorem mw_code_J0_charAt_5068e : (Cond.code yJ0_charAt_5068e cJ0_charAt_5068e 2 (some .char) : Cond) ∈ cw := cw_of (List.mem_append_right _ (List.mem_append_right _ (List.mem_append_right _ (List.mem_append_left _ (List.mem_of_getElem? (i := 6) rfl))))) (by decide +kernel)
theorem mw_inst_J0_charAt_5068e : (Cond.instanceMethod yJ0_charAt_5068e : Cond) ∈ cw := cw_of (List.mem_append_right _ (List.mem_append_right _ (List.mem_append_right _ (List.mem_append_left _ (List.mem_of_getElem? (i := 4) (by decide +kernel)))))) (by decide +kernel)
theorem mw_ml_7_58 : (Cond.methodLink RX7 58 yJ0_charAt_5068e : Cond) ∈ cw := cw_of (List.mem_append_right _ (List.mem_append_right _ (List.mem_append_right _ (List.mem_append_left _ (List.mem_of_getElem? (i := 3) (by decide +kernel)))))) (by decide +kernel)
theorem mw_sel_J0_charAt_5068e : (Cond.selects RJ0 yJ0_charAt_5068e yJ0_charAt_5068e : Cond) ∈ cw := cw_of (List.mem_append_right _ (List.mem_append_right _ (List.mem_append_right _ (List.mem_append_left _ (List.mem_of_getElem? (i := 5) (by decide +kernel)))))) (by decide +kernel)
theorem dX7_isWordAt_0 : decode cX7_isWordAt 0 = .ok (.iconst 0, 1) := by decide +kernel
theorem dX7_isWordAt_1 : decode cX7_isWordAt 1 = .ok (.istore_n 2, 1) := by decide +kernel
theorem dX7_isWordAt_2 : decode cX7_isWordAt 2 = .ok (.iload_n 2, 1) := by decide +kernel
theorem dX7_isWordAt_3 : decode cX7_isWordAt 3 = .ok (.aload_n 0, 1) := by decide +kernel
theorem dX7_isWordAt_4 : decode cX7_isWordAt 4 = .ok (.getfield 31, 3) := by decide +kernel
theorem dX7_isWordAt_7 : decode cX7_isWordAt 7 = .ok (.aload_n 0, 1) := by decide +kernel
theorem dX7_isWordAt_8 : decode cX7_isWordAt 8 = .ok (.getfield 28, 3) := by decide +kernel
theorem dX7_isWordAt_11 : decode cX7_isWordAt 11 = .ok (.isub, 1) := by decide +kernel
theorem dX7_isWordAt_12 : decode cX7_isWordAt 12 = .ok (.if_icmp .ge 33, 3) := by decide +kernel
theorem dX7_isWordAt_15 : decode cX7_isWordAt 15 = .ok (.ldc 50, 2) := by decide +kernel
theorem dX7_isWordAt_17 : decode cX7_isWordAt 17 = .ok (.iload_n 1, 1) := by decide +kernel
theorem dX7_isWordAt_18 : decode cX7_isWordAt 18 = .ok (.iload_n 2, 1) := by decide +kernel
theorem dX7_isWordAt_19 : decode cX7_isWordAt 19 = .ok (.iadd, 1) := by decide +kernel
theorem dX7_isWordAt_20 : decode cX7_isWordAt 20 = .ok (.invokevirtual 58, 3) := by decide +kernel
theorem dX7_isWordAt_23 : decode cX7_isWordAt 23 = .ok (.aload_n 0, 1) := by decide +kernel
theorem dX7_isWordAt_24 : decode cX7_isWordAt 24 = .ok (.getfield 9, 3) := by decide +kernel
theorem dX7_isWordAt_27 : decode cX7_isWordAt 27 = .ok (.aload_n 0, 1) := by decide +kernel
theorem dX7_isWordAt_28 : decode cX7_isWordAt 28 = .ok (.getfield 28, 3) := by decide +kernel
theorem dX7_isWordAt_31 : decode cX7_isWordAt 31 = .ok (.iload_n 2, 1) := by decide +kernel
theorem dX7_isWordAt_32 : decode cX7_isWordAt 32 = .ok (.iadd, 1) := by decide +kernel
theorem dX7_isWordAt_33 : decode cX7_isWordAt 33 = .ok (.baload, 1) := by decide +kernel
theorem dX7_isWordAt_34 : decode cX7_isWordAt 34 = .ok (.if_icmp .eq 5, 3) := by decide +kernel
theorem dX7_isWordAt_37 : decode cX7_isWordAt 37 = .ok (.iconst 0, 1) := by decide +kernel
theorem dX7_isWordAt_38 : decode cX7_isWordAt 38 = .ok (.ireturn, 1) := by decide +kernel
theorem dX7_isWordAt_39 : decode cX7_isWordAt 39 = .ok (.iinc 2 1, 3) := by decide +kernel
theorem dX7_isWordAt_42 : decode cX7_isWordAt 42 = .ok (.goto (-40), 3) := by decide +kernel
theorem dX7_isWordAt_45 : decode cX7_isWordAt 45 = .ok (.iconst 1, 1) := by decide +kernel
theorem dX7_isWordAt_46 : decode cX7_isWordAt 46 = .ok (.ireturn, 1) := by decide +kernel
theorem hd_J0_charAt_5068e : yJ0_charAt_5068e.cls ≠ "java/lang/invoke/MethodHandle" ∧ yJ0_charAt_5068e.cls ≠ "java/lang/invoke/VarHandle" ∧ (parseMethodDescriptor yJ0_charAt_5068e.desc).map (fun d => d.parameters.length) = some 1 := ⟨by decide +kernel, by decide +kernel, by decide +kernel⟩
theorem wa1 {x i v6 v5 : Int32} (hw : x.toInt + (v6.toInt - v5.toInt) ≤ 96) (bx : iv 0 95 x) (bi : iv 0 400 i) (b6 : iv 0 400 v6) (b5 : iv 0 400 v5) (c : ¬ v6 - v5 ≤ i) : iv 0 95 (x + i) ∧ iv 0 399 (v5 + i) := by
  obtain ⟨x1, x2⟩ := bx
  obtain ⟨i1, i2⟩ := bi
  obtain ⟨a1, a2⟩ := b6
  obtain ⟨c1, c2⟩ := b5
  have hs : (v6 - v5).toInt = v6.toInt - v5.toInt := ti_sub (by omega) (by omega)
  have h := Int32.lt_iff_toInt_lt.mp (Int32.not_le.mp c)
  rw [hs] at h
  have e1 : (x + i).toInt = x.toInt + i.toInt := ti_add (by omega) (by omega)
  have e2 : (v5 + i).toInt = v5.toInt + i.toInt := ti_add (by omega) (by omega)
  unfold iv
  rw [e1, e2]
  omega
set_option maxHeartbeats 4000000 in
set_option maxRecDepth 100000 in
theorem tp_isWordAt (l : Launch) (D : va_G) (K : Nat → ClassId) (ad : Nat → Nat) (z : TS) (o : Ok z) (p0 : Nat) (ap0 : at_ 7 p0 = true) (x1 : Int32) (bx1 : iv 0 95 x1) (hw : x1.toInt + ((tI z p0 6).toInt - (tI z p0 5).toInt) ≤ 96) : cI l yX7_isWordAt cX7_isWordAt 3 .boolean ({ frames := 4, cells := 0, slots := 0, locals := 85 }) D K ad z [.ref (ad p0), .int x1] (fun r u => u = z ∧ iv 0 1 r) := by
  refine t_enterI (by decide) (Nat.le_of_ble_eq_true rfl) rfl rfl ?_
  intro p e s m args below meth c A R Q H locs ls E hfr hlo RET G hl
  have E : mE p s m meth c cX7_isWordAt args 3 RX7 D K A := E
  have hl : lv_has ls 3 [(0, .ref (ad p0)), (1, .int x1)] := hl
  refine lv_iconst (v := 0) E.1 E.2.1 dX7_isWordAt_0 (by decide) ?_
  refine lv_istore_n (lv' := [(2, .int 0), (0, .ref (ad p0)), (1, .int x1)]) E.1 E.2.1 dX7_isWordAt_1 rfl hl (by decide) rfl (fun ls hl => ?_)
  have LOOP2 : ∀ n : Nat, ∀ (y1 : Int32) (H : Heap) (locs : List Loc) (ls : Array Slot), mG D A s H locs (wd K ad z) → iv 0 400 y1 → 400 < y1.toInt + (n : Int) → lv_has ls 3 [(2, .int y1), (0, .ref (ad p0)), (1, .int x1)] → W p l e R s m args below meth c H locs 0 0 Q (F0 m 2 ls []) := by
    intro n
    induction n with
    | zero =>
      intro y1 H locs ls G b6 m5 hl
      exact absurd m5 (by have := b6.1; have := b6.2; omega)
    | succ n ih2 =>
      intro y1 H locs ls G b6 m5 hl
      refine lv_iload_n E.1 E.2.1 dX7_isWordAt_2 rfl (lv_at hl 0 rfl) ?_
      refine lv_aload_n E.1 E.2.1 dX7_isWordAt_3 rfl (lv_at hl 1 rfl) ?_
      refine t_get E G 7 6 (at_ro (i := 0) ap0 (by decide) : ro p0 = 7) (C := RX7) (T := TX7) (N := 7) rfl (by decide) (by decide) (by decide) mw_fl_7_31 (fvl_i rfl) dX7_isWordAt_4 ?_
      refine lv_topi (fun v7 e8 => ?_)
      have b9 : iv 0 400 v7 := by rw [e8]; exact o.i 7 6 (at_ro (i := 0) ap0 (by decide) : ro p0 = 7)
      refine lv_aload_n E.1 E.2.1 dX7_isWordAt_7 rfl (lv_at hl 1 rfl) ?_
      refine t_get E G 7 5 (at_ro (i := 0) ap0 (by decide) : ro p0 = 7) (C := RX7) (T := TX7) (N := 7) rfl (by decide) (by decide) (by decide) mw_fl_7_28 (fvl_i rfl) dX7_isWordAt_8 ?_
      refine lv_topi (fun v10 e11 => ?_)
      have b12 : iv 0 400 v10 := by rw [e11]; exact o.i 7 5 (at_ro (i := 0) ap0 (by decide) : ro p0 = 7)
      refine lv_isub E.1 E.2.1 dX7_isWordAt_11 ?_
      refine lv_topi (fun v13 e14 => ?_)
      have b15 : iv (-400) 400 v13 := by rw [e14]; exact iv_sub b9 b12 (by decide) (by decide) (by decide) (by decide)
      refine lv_icmp_ge (tgt := 45) E.1 E.2.1 dX7_isWordAt_12 (by decide) (fun c16 => ?_) (fun c16 => ?_)
      · skip
        refine lv_iconst (v := 1) E.1 E.2.1 dX7_isWordAt_45 (by decide) ?_
        exact RET G ⟨rfl, (iv_mono (iv_lit (lo := 1) (hi := 1) 1 (by decide) (by decide)) (by decide) (by decide))⟩ (by decide) dX7_isWordAt_46
      · skip
        have b17 : iv 0 399 y1 := lt_l (Int32.not_le.mp c16) b6 b15 (by decide)
        have b18 : iv 1 400 v13 := lt_r (Int32.not_le.mp c16) b6 b15 (by decide)
        refine t_ldcW E dX7_isWordAt_15 ?_
        refine lv_iload_n E.1 E.2.1 dX7_isWordAt_17 rfl (lv_at hl 2 rfl) ?_
        refine lv_iload_n E.1 E.2.1 dX7_isWordAt_18 rfl (lv_at hl 0 rfl) ?_
        refine lv_iadd E.1 E.2.1 dX7_isWordAt_19 ?_
        refine lv_topi (fun v19 e20 => ?_)
        have b21 : iv 0 494 v19 := by rw [e20]; exact iv_add bx1 b17 (by decide) (by decide) (by decide) (by decide)
        have b22 : iv 0 95 v19 := by rw [e20]; exact (wa1 (by have h := hw; rw [← e8, ← e11] at h; exact h) bx1 (iv_mono b17 (by decide) (by decide)) (iv_mono b9 (by decide) (by decide)) (iv_mono b12 (by decide) (by decide)) (by rw [← e14]; exact c16)).1
        refine t_svi E G hl 0 (by decide) (j_charAt l D K ad z o v19 (iv_mono b22 (by decide) (by decide))) rfl 1 rfl mw_code_J0_charAt_5068e mw_ini_J0 mw_ml_7_58 mw_inst_J0_charAt_5068e mw_sel_J0_charAt_5068e hd_J0_charAt_5068e ⟨Nat.le_trans (by decide) hfr, Nat.le_trans (by decide) hlo⟩ rfl rfl rfl (Nat.le_of_ble_eq_true rfl) dX7_isWordAt_20 (fun r24 zz23 H locs hp25 G => ?_)
        obtain ⟨hz29, b26, h27, h28⟩ := hp25
        rw [hz29] at G
        refine lv_aload_n E.1 E.2.1 dX7_isWordAt_23 rfl (lv_at hl 1 rfl) ?_
        refine t_get E G 7 0 (at_ro (i := 0) ap0 (by decide) : ro p0 = 7) (C := RX7) (T := TX7) (N := 7) rfl (by decide) (by decide) (by decide) mw_fl_7_9 (v := .ref (ad (p0 + 1))) (fvl_o (n := 1) rfl) dX7_isWordAt_24 ?_
        refine lv_aload_n E.1 E.2.1 dX7_isWordAt_27 rfl (lv_at hl 1 rfl) ?_
        refine t_get E G 7 5 (at_ro (i := 0) ap0 (by decide) : ro p0 = 7) (C := RX7) (T := TX7) (N := 7) rfl (by decide) (by decide) (by decide) mw_fl_7_28 (fvl_i rfl) dX7_isWordAt_28 ?_
        refine m_ci v10 e11.symm ?_
        refine lv_iload_n E.1 E.2.1 dX7_isWordAt_31 rfl (lv_at hl 0 rfl) ?_
        refine lv_iadd E.1 E.2.1 dX7_isWordAt_32 ?_
        refine lv_topi (fun v30 e31 => ?_)
        have b32 : iv 0 799 v30 := by rw [e31]; exact iv_add b12 b17 (by decide) (by decide) (by decide) (by decide)
        refine t_bald E G 20 (at_ro (i := 1) ap0 (by decide) : ro (p0 + 1) = 20) (by decide) (by decide) rfl (n := 400) rfl (iv_vp (show iv 0 399 v30 by rw [e31]; exact (wa1 (by have h := hw; rw [← e8, ← e11] at h; exact h) bx1 (iv_mono b17 (by decide) (by decide)) (iv_mono b9 (by decide) (by decide)) (iv_mono b12 (by decide) (by decide)) (by rw [← e14]; exact c16)).2) (by decide) (by decide)) dX7_isWordAt_33 ?_
        refine lv_topi (fun v33 e34 => ?_)
        have b35 : iv (-128) 127 v33 := by rw [e34]; exact o.ac 20 (at_ro (i := 1) ap0 (by decide) : ro (p0 + 1) = 20) (by decide) _
        refine lv_icmp_eq (tgt := 39) E.1 E.2.1 dX7_isWordAt_34 (by decide) (fun c36 => ?_) (fun c36 => ?_)
        · skip
          obtain ⟨v37, e38⟩ : ∃ w : Int32, w = y1 + (1 : Int32) := ⟨_, rfl⟩
          refine lv_iinc (v := v37) (lv' := [(2, .int v37), (0, .ref (ad p0)), (1, .int x1)]) E.1 E.2.1 dX7_isWordAt_39 hl (k := 0) rfl (by rw [e38]; rfl) (by decide) rfl (fun ls hl => ?_)
          have b39 : iv 1 400 v37 := by rw [e38]; exact iv_add b17 (iv_lit (lo := 1) (hi := 1) 1 (by decide) (by decide)) (by decide) (by decide) (by decide) (by decide)
          have t40 : v37.toInt = y1.toInt + 1 := by rw [e38]; exact ti_addc 1 (by decide) b17 (by decide) (by decide)
          refine lv_goto (tgt := 2) E.1 E.2.1 dX7_isWordAt_42 (by decide) ?_
          exact ih2 v37 H locs ls G (iv_mono b39 (by decide) (by decide)) (by have := t40; have := m5; omega) (lv_sub hl [0, 1, 2] rfl)
        · skip
          refine lv_iconst (v := 0) E.1 E.2.1 dX7_isWordAt_37 (by decide) ?_
          exact RET G ⟨rfl, (iv_mono (iv_lit (lo := 0) (hi := 0) 0 (by decide) (by decide)) (by decide) (by decide))⟩ (by decide) dX7_isWordAt_38
  exact LOOP2 401 0 H locs ls G (iv_mono (iv_lit (lo := 0) (hi := 0) 0 (by decide) (by decide)) (by decide) (by decide)) (by have := (iv_lit (lo := 0) (hi := 0) 0 (by decide) (by decide)).1; omega) (lv_sub hl [0, 1, 2] rfl)
