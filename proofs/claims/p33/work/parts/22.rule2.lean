theorem mw_code_X4_answer : (Cond.code yX4_answer cX4_answer 7 (some .long) : Cond) ∈ cw := cw_of (List.mem_append_right _ (List.mem_append_right _ (List.mem_append_right _ (List.mem_append_right _ (List.mem_append_left _ (List.mem_of_getElem? (i := 118) rfl)))))) (by decide +kernel)
theorem mw_inst_X4_answer : (Cond.instanceMethod yX4_answer : Cond) ∈ cw := cw_of (List.mem_append_right _ (List.mem_append_right _ (List.mem_append_right _ (List.mem_append_right _ (List.mem_append_left _ (List.mem_of_getElem? (i := 117) (by decide +kernel))))))) (by decide +kernel)
theorem mw_ml_4_32 : (Cond.methodLink RX4 32 yX4_answer : Cond) ∈ cw := cw_of (List.mem_append_right _ (List.mem_append_right _ (List.mem_append_right _ (List.mem_append_right _ (List.mem_append_left _ (List.mem_of_getElem? (i := 115) (by decide +kernel))))))) (by decide +kernel)
theorem mw_sel_X4_answer : (Cond.selects RX4 yX4_answer yX4_answer : Cond) ∈ cw := cw_of (List.mem_append_left _ (List.mem_of_getElem? (i := 34) (by decide +kernel))) (by decide +kernel)
theorem dX4_worth_0 : decode cX4_worth 0 = .ok (.iconst 0, 1) := by decide +kernel
theorem dX4_worth_1 : decode cX4_worth 1 = .ok (.istore_n 2, 1) := by decide +kernel
theorem dX4_worth_2 : decode cX4_worth 2 = .ok (.iload_n 2, 1) := by decide +kernel
theorem dX4_worth_3 : decode cX4_worth 3 = .ok (.aload_n 0, 1) := by decide +kernel
theorem dX4_worth_4 : decode cX4_worth 4 = .ok (.getfield 9, 3) := by decide +kernel
theorem dX4_worth_7 : decode cX4_worth 7 = .ok (.if_icmp .ge 58, 3) := by decide +kernel
theorem dX4_worth_10 : decode cX4_worth 10 = .ok (.aload_n 0, 1) := by decide +kernel
theorem dX4_worth_11 : decode cX4_worth 11 = .ok (.getfield 25, 3) := by decide +kernel
theorem dX4_worth_14 : decode cX4_worth 14 = .ok (.iload_n 2, 1) := by decide +kernel
theorem dX4_worth_15 : decode cX4_worth 15 = .ok (.iaload, 1) := by decide +kernel
theorem dX4_worth_16 : decode cX4_worth 16 = .ok (.istore_n 3, 1) := by decide +kernel
theorem dX4_worth_17 : decode cX4_worth 17 = .ok (.aload_n 0, 1) := by decide +kernel
theorem dX4_worth_18 : decode cX4_worth 18 = .ok (.getfield 22, 3) := by decide +kernel
theorem dX4_worth_21 : decode cX4_worth 21 = .ok (.iload_n 2, 1) := by decide +kernel
theorem dX4_worth_22 : decode cX4_worth 22 = .ok (.iconst 1, 1) := by decide +kernel
theorem dX4_worth_23 : decode cX4_worth 23 = .ok (.iadd, 1) := by decide +kernel
theorem dX4_worth_24 : decode cX4_worth 24 = .ok (.iaload, 1) := by decide +kernel
theorem dX4_worth_25 : decode cX4_worth 25 = .ok (.istore 4, 2) := by decide +kernel
theorem dX4_worth_27 : decode cX4_worth 27 = .ok (.iload_n 3, 1) := by decide +kernel
theorem dX4_worth_28 : decode cX4_worth 28 = .ok (.iload 4, 2) := by decide +kernel
theorem dX4_worth_30 : decode cX4_worth 30 = .ok (.if_icmp .eq 16, 3) := by decide +kernel
theorem dX4_worth_33 : decode cX4_worth 33 = .ok (.aload_n 0, 1) := by decide +kernel
theorem dX4_worth_34 : decode cX4_worth 34 = .ok (.iload_n 3, 1) := by decide +kernel
theorem dX4_worth_35 : decode cX4_worth 35 = .ok (.iload 4, 2) := by decide +kernel
theorem dX4_worth_37 : decode cX4_worth 37 = .ok (.aload_n 1, 1) := by decide +kernel
theorem dX4_worth_38 : decode cX4_worth 38 = .ok (.invokevirtual 32, 3) := by decide +kernel
theorem dX4_worth_41 : decode cX4_worth 41 = .ok (.lconst 0, 1) := by decide +kernel
theorem dX4_worth_42 : decode cX4_worth 42 = .ok (.lcmp, 1) := by decide +kernel
theorem dX4_worth_43 : decode cX4_worth 43 = .ok (.ifCond .eq 16, 3) := by decide +kernel
theorem dX4_worth_46 : decode cX4_worth 46 = .ok (.aload_n 0, 1) := by decide +kernel
theorem dX4_worth_47 : decode cX4_worth 47 = .ok (.aload_n 0, 1) := by decide +kernel
theorem dX4_worth_48 : decode cX4_worth 48 = .ok (.getfield 22, 3) := by decide +kernel
theorem dX4_worth_51 : decode cX4_worth 51 = .ok (.iload_n 2, 1) := by decide +kernel
theorem dX4_worth_52 : decode cX4_worth 52 = .ok (.iaload, 1) := by decide +kernel
theorem dX4_worth_53 : decode cX4_worth 53 = .ok (.iload_n 3, 1) := by decide +kernel
theorem dX4_worth_54 : decode cX4_worth 54 = .ok (.aload_n 1, 1) := by decide +kernel
theorem dX4_worth_55 : decode cX4_worth 55 = .ok (.invokevirtual 32, 3) := by decide +kernel
theorem dX4_worth_58 : decode cX4_worth 58 = .ok (.lreturn, 1) := by decide +kernel
theorem dX4_worth_59 : decode cX4_worth 59 = .ok (.iinc 2 1, 3) := by decide +kernel
theorem dX4_worth_62 : decode cX4_worth 62 = .ok (.goto (-60), 3) := by decide +kernel
theorem dX4_worth_65 : decode cX4_worth 65 = .ok (.lconst 0, 1) := by decide +kernel
theorem dX4_worth_66 : decode cX4_worth 66 = .ok (.lreturn, 1) := by decide +kernel
theorem hd_X4_answer : yX4_answer.cls ≠ "java/lang/invoke/MethodHandle" ∧ yX4_answer.cls ≠ "java/lang/invoke/VarHandle" ∧ (parseMethodDescriptor yX4_answer.desc).map (fun d => d.parameters.length) = some 3 := ⟨by decide +kernel, by decide +kernel, by decide +kernel⟩
set_option maxHeartbeats 4000000 in
set_option maxRecDepth 100000 in
theorem r_worth (l : Launch) (D : va_G) (K : Nat → ClassId) (ad : Nat → Nat) (z : TS) (o : Ok z) (p0 : Nat) (ap0 : at_ 4 p0 = true) : cL l yX4_worth cX4_worth 5 ({ frames := 2, cells := 0, slots := 0, locals := 50 }) D K ad z [.ref (ad p0), .ref (ad 334)] (fun r u => Ok u ∧ KC z u) := by
  refine t_enterL (by decide) (Nat.le_of_ble_eq_true rfl) rfl rfl ?_
  intro p e s m args below meth c A R Q H locs ls E hfr hlo RET G hl
  have E : mE p s m meth c cX4_worth args 5 RX4 D K A := E
  have hl : lv_has ls 5 [(0, .ref (ad p0)), (1, .ref (ad 334))] := hl
  refine lv_iconst (v := 0) E.1 E.2.1 dX4_worth_0 (by decide) ?_
  refine lv_istore_n (lv' := [(2, .int 0), (0, .ref (ad p0)), (1, .ref (ad 334))]) E.1 E.2.1 dX4_worth_1 rfl hl (by decide) rfl (fun ls hl => ?_)
  have LOOP2 : ∀ n : Nat, ∀ (zz2 : TS) (y1 : Int32) (H : Heap) (locs : List Loc) (ls : Array Slot), mG D A s H locs (wd K ad zz2) → Ok zz2 → KC z zz2 → iv 0 12 y1 → 12 < y1.toInt + (n : Int) → lv_has ls 5 [(2, .int y1), (0, .ref (ad p0)), (1, .ref (ad 334))] → W p l e R s m args below meth c H locs 0 0 Q (F0 m 2 ls []) := by
    intro n
    induction n with
    | zero =>
      intro zz2 y1 H locs ls G oo3 kk4 b6 m5 hl
      exact absurd m5 (by have := b6.1; have := b6.2; omega)
    | succ n ih2 =>
      intro zz2 y1 H locs ls G oo3 kk4 b6 m5 hl
      refine lv_iload_n E.1 E.2.1 dX4_worth_2 rfl (lv_at hl 0 rfl) ?_
      refine lv_aload_n E.1 E.2.1 dX4_worth_3 rfl (lv_at hl 1 rfl) ?_
      refine t_get E G 4 0 (at_ro (i := 0) ap0 (by decide) : ro p0 = 4) (C := RX4) (T := TX4) (N := 6) rfl (by decide) (by decide) (by decide) mw_fl_4_9 (fvl_i rfl) dX4_worth_4 ?_
      refine lv_topi (fun v7 e8 => ?_)
      have b9 : iv 0 12 v7 := by rw [e8]; exact oo3.i 4 0 (at_ro (i := 0) ap0 (by decide) : ro p0 = 4)
      refine lv_icmp_ge (tgt := 65) E.1 E.2.1 dX4_worth_7 (by decide) (fun c10 => ?_) (fun c10 => ?_)
      · skip
        refine lv_lconst (v := 0) E.1 E.2.1 dX4_worth_65 (by decide) ?_
        exact RET G ⟨oo3, kk4⟩ dX4_worth_66
      · skip
        have b11 : iv 0 11 y1 := lt_l (Int32.not_le.mp c10) b6 b9 (by decide)
        have b12 : iv 1 12 v7 := lt_r (Int32.not_le.mp c10) b6 b9 (by decide)
        refine lv_aload_n E.1 E.2.1 dX4_worth_10 rfl (lv_at hl 1 rfl) ?_
        refine t_get E G 4 4 (at_ro (i := 0) ap0 (by decide) : ro p0 = 4) (C := RX4) (T := TX4) (N := 6) rfl (by decide) (by decide) (by decide) mw_fl_4_25 (v := .ref (ad (p0 + 3))) (fvl_o (n := 3) rfl) dX4_worth_11 ?_
        refine lv_iload_n E.1 E.2.1 dX4_worth_14 rfl (lv_at hl 0 rfl) ?_
        refine t_iald E G 32 (at_ro (i := 3) ap0 (by decide) : ro (p0 + 3) = 32) (by decide) (by decide) rfl (n := 13) rfl (iv_vp b11 (by decide) (by decide)) dX4_worth_15 ?_
        refine lv_topi (fun v13 e14 => ?_)
        have b15 : iv (-1) 400 v13 := by rw [e14]; exact oo3.ac 32 (at_ro (i := 3) ap0 (by decide) : ro (p0 + 3) = 32) (by decide) _
        have b16 : iv 0 400 v13 := ⟨by rw [e14]; exact oo3.2 p0 (at_ro (i := 0) ap0 (by decide) : ro p0 = 4) _ (by rw [e8.symm]; have := iv_nat b11 (by decide); have := Int32.lt_iff_toInt_lt.mp (Int32.not_le.mp c10); omega), b15.2⟩
        refine lv_istore_n (lv' := [(3, .int v13), (2, .int y1), (0, .ref (ad p0)), (1, .ref (ad 334))]) E.1 E.2.1 dX4_worth_16 rfl hl (by decide) rfl (fun ls hl => ?_)
        refine lv_aload_n E.1 E.2.1 dX4_worth_17 rfl (lv_at hl 2 rfl) ?_
        refine t_get E G 4 3 (at_ro (i := 0) ap0 (by decide) : ro p0 = 4) (C := RX4) (T := TX4) (N := 6) rfl (by decide) (by decide) (by decide) mw_fl_4_22 (v := .ref (ad (p0 + 2))) (fvl_o (n := 2) rfl) dX4_worth_18 ?_
        refine lv_iload_n E.1 E.2.1 dX4_worth_21 rfl (lv_at hl 1 rfl) ?_
        refine lv_iconst (v := 1) E.1 E.2.1 dX4_worth_22 (by decide) ?_
        refine lv_iadd E.1 E.2.1 dX4_worth_23 ?_
        refine lv_topi (fun v17 e18 => ?_)
        have b19 : iv 1 12 v17 := by rw [e18]; exact iv_add b11 (iv_lit (lo := 1) (hi := 1) 1 (by decide) (by decide)) (by decide) (by decide) (by decide) (by decide)
        refine t_iald E G 31 (at_ro (i := 2) ap0 (by decide) : ro (p0 + 2) = 31) (by decide) (by decide) rfl (n := 13) rfl (iv_vp b19 (by decide) (by decide)) dX4_worth_24 ?_
        refine lv_topi (fun v20 e21 => ?_)
        have b22 : iv 0 400 v20 := by rw [e21]; exact oo3.ac 31 (at_ro (i := 2) ap0 (by decide) : ro (p0 + 2) = 31) (by decide) _
        refine lv_istore (lv' := [(4, .int v20), (3, .int v13), (2, .int y1), (0, .ref (ad p0)), (1, .ref (ad 334))]) E.1 E.2.1 dX4_worth_25 hl (by decide) rfl (fun ls hl => ?_)
        refine lv_iload_n E.1 E.2.1 dX4_worth_27 rfl (lv_at hl 1 rfl) ?_
        refine lv_iload E.1 E.2.1 dX4_worth_28 (lv_at hl 0 rfl) ?_
        refine lv_icmp_eq (tgt := 46) E.1 E.2.1 dX4_worth_30 (by decide) (fun c23 => ?_) (fun c23 => ?_)
        · skip
          refine lv_aload_n E.1 E.2.1 dX4_worth_46 rfl (lv_at hl 3 rfl) ?_
          refine lv_aload_n E.1 E.2.1 dX4_worth_47 rfl (lv_at hl 3 rfl) ?_
          refine t_get E G 4 3 (at_ro (i := 0) ap0 (by decide) : ro p0 = 4) (C := RX4) (T := TX4) (N := 6) rfl (by decide) (by decide) (by decide) mw_fl_4_22 (v := .ref (ad (p0 + 2))) (fvl_o (n := 2) rfl) dX4_worth_48 ?_
          refine lv_iload_n E.1 E.2.1 dX4_worth_51 rfl (lv_at hl 2 rfl) ?_
          refine t_iald E G 31 (at_ro (i := 2) ap0 (by decide) : ro (p0 + 2) = 31) (by decide) (by decide) rfl (n := 13) rfl (iv_vp b11 (by decide) (by decide)) dX4_worth_52 ?_
          refine lv_topi (fun v24 e25 => ?_)
          have b26 : iv 0 400 v24 := by rw [e25]; exact oo3.ac 31 (at_ro (i := 2) ap0 (by decide) : ro (p0 + 2) = 31) (by decide) _
          refine lv_iload_n E.1 E.2.1 dX4_worth_53 rfl (lv_at hl 1 rfl) ?_
          refine lv_aload_n E.1 E.2.1 dX4_worth_54 rfl (lv_at hl 4 rfl) ?_
          refine t_vl E G hl (r_answer l D K ad zz2 oo3 p0 ap0 v24 (iv_mono b26 (by decide) (by decide)) v13 (iv_mono b16 (by decide) (by decide))) 4 (at_ro (i := 0) ap0 (by decide) : ro p0 = 4) (by decide) rfl rfl 3 rfl mw_code_X4_answer mw_ini_4 mw_ml_4_32 mw_inst_X4_answer mw_sel_X4_answer hd_X4_answer ⟨Nat.le_trans (by decide) hfr, Nat.le_trans (by decide) hlo⟩ rfl rfl rfl (Nat.le_of_ble_eq_true rfl) dX4_worth_55 (fun r28 zz27 H locs hp29 G => ?_)
          obtain ⟨oo30, kk31⟩ := hp29
          have kk32 : KC z zz27 := KC.tr kk4 kk31
          exact RET G ⟨oo30, kk32⟩ dX4_worth_58
        · skip
          refine lv_aload_n E.1 E.2.1 dX4_worth_33 rfl (lv_at hl 3 rfl) ?_
          refine lv_iload_n E.1 E.2.1 dX4_worth_34 rfl (lv_at hl 1 rfl) ?_
          refine lv_iload E.1 E.2.1 dX4_worth_35 (lv_at hl 0 rfl) ?_
          refine lv_aload_n E.1 E.2.1 dX4_worth_37 rfl (lv_at hl 4 rfl) ?_
          refine t_vl E G hl (r_answer l D K ad zz2 oo3 p0 ap0 v13 (iv_mono b16 (by decide) (by decide)) v20 (iv_mono b22 (by decide) (by decide))) 4 (at_ro (i := 0) ap0 (by decide) : ro p0 = 4) (by decide) rfl rfl 3 rfl mw_code_X4_answer mw_ini_4 mw_ml_4_32 mw_inst_X4_answer mw_sel_X4_answer hd_X4_answer ⟨Nat.le_trans (by decide) hfr, Nat.le_trans (by decide) hlo⟩ rfl rfl rfl (Nat.le_of_ble_eq_true rfl) dX4_worth_38 (fun r34 zz33 H locs hp35 G => ?_)
          obtain ⟨oo36, kk37⟩ := hp35
          have kk38 : KC z zz33 := KC.tr kk4 kk37
          refine lv_lconst (v := 0) E.1 E.2.1 dX4_worth_41 (by decide) ?_
          refine W.lcmp E.1 E.2.1 dX4_worth_42 ?_
          refine lv_topi (fun v39 e40 => ?_)
          have b41 : iv (-1) 1 v39 := by rw [e40]; exact lgc_iv _ _
          refine lv_if_eq (tgt := 59) E.1 E.2.1 dX4_worth_43 (by decide) (fun c42 => ?_) (fun c42 => ?_)
          · skip
            have b43 : iv 0 0 v39 := iv_eq c42 (iv_lit (lo := 0) (hi := 0) 0 (by decide) (by decide))
            obtain ⟨v44, e45⟩ : ∃ w : Int32, w = y1 + (1 : Int32) := ⟨_, rfl⟩
            refine lv_iinc (v := v44) (lv' := [(2, .int v44), (4, .int v20), (3, .int v13), (0, .ref (ad p0)), (1, .ref (ad 334))]) E.1 E.2.1 dX4_worth_59 hl (k := 2) rfl (by rw [e45]; rfl) (by decide) rfl (fun ls hl => ?_)
            have b46 : iv 1 12 v44 := by rw [e45]; exact iv_add b11 (iv_lit (lo := 1) (hi := 1) 1 (by decide) (by decide)) (by decide) (by decide) (by decide) (by decide)
            have t47 : v44.toInt = y1.toInt + 1 := by rw [e45]; exact ti_addc 1 (by decide) b11 (by decide) (by decide)
            refine lv_goto (tgt := 2) E.1 E.2.1 dX4_worth_62 (by decide) ?_
            exact ih2 zz33 v44 H locs ls G oo36 kk38 (iv_mono b46 (by decide) (by decide)) (by have := t47; have := m5; omega) (lv_sub hl [0, 3, 4] rfl)
          · skip
            refine lv_aload_n E.1 E.2.1 dX4_worth_46 rfl (lv_at hl 3 rfl) ?_
            refine lv_aload_n E.1 E.2.1 dX4_worth_47 rfl (lv_at hl 3 rfl) ?_
            refine t_get E G 4 3 (at_ro (i := 0) ap0 (by decide) : ro p0 = 4) (C := RX4) (T := TX4) (N := 6) rfl (by decide) (by decide) (by decide) mw_fl_4_22 (v := .ref (ad (p0 + 2))) (fvl_o (n := 2) rfl) dX4_worth_48 ?_
            refine lv_iload_n E.1 E.2.1 dX4_worth_51 rfl (lv_at hl 2 rfl) ?_
            refine t_iald E G 31 (at_ro (i := 2) ap0 (by decide) : ro (p0 + 2) = 31) (by decide) (by decide) rfl (n := 13) rfl (iv_vp b11 (by decide) (by decide)) dX4_worth_52 ?_
            refine lv_topi (fun v48 e49 => ?_)
            have b50 : iv 0 400 v48 := by rw [e49]; exact oo36.ac 31 (at_ro (i := 2) ap0 (by decide) : ro (p0 + 2) = 31) (by decide) _
            refine lv_iload_n E.1 E.2.1 dX4_worth_53 rfl (lv_at hl 1 rfl) ?_
            refine lv_aload_n E.1 E.2.1 dX4_worth_54 rfl (lv_at hl 4 rfl) ?_
            refine t_vl E G hl (r_answer l D K ad zz33 oo36 p0 ap0 v48 (iv_mono b50 (by decide) (by decide)) v13 (iv_mono b16 (by decide) (by decide))) 4 (at_ro (i := 0) ap0 (by decide) : ro p0 = 4) (by decide) rfl rfl 3 rfl mw_code_X4_answer mw_ini_4 mw_ml_4_32 mw_inst_X4_answer mw_sel_X4_answer hd_X4_answer ⟨Nat.le_trans (by decide) hfr, Nat.le_trans (by decide) hlo⟩ rfl rfl rfl (Nat.le_of_ble_eq_true rfl) dX4_worth_55 (fun r52 zz51 H locs hp53 G => ?_)
            obtain ⟨oo54, kk55⟩ := hp53
            have kk56 : KC z zz51 := KC.tr kk38 kk55
            exact RET G ⟨oo54, kk56⟩ dX4_worth_58
  exact LOOP2 13 z 0 H locs ls G o KC.rf (iv_mono (iv_lit (lo := 0) (hi := 0) 0 (by decide) (by decide)) (by decide) (by decide)) (by have := (iv_lit (lo := 0) (hi := 0) 0 (by decide) (by decide)).1; omega) (lv_sub hl [0, 1, 2] rfl)
