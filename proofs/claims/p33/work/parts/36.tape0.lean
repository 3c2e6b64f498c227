theorem mw_fl_7_15 : (Cond.fieldLink RX7 15 "LureTown$Tape" "size" "I" : Cond) ∈ cw := cw_of (List.mem_append_right _ (List.mem_append_left _ (List.mem_of_getElem? (i := 36) (by decide +kernel)))) (by decide +kernel)
theorem mw_fl_7_19 : (Cond.fieldLink RX7 19 "LureTown$Tape" "fault" "I" : Cond) ∈ cw := cw_of (List.mem_append_right _ (List.mem_append_left _ (List.mem_of_getElem? (i := 38) (by decide +kernel)))) (by decide +kernel)
theorem mw_fl_7_28 : (Cond.fieldLink RX7 28 "LureTown$Tape" "start" "I" : Cond) ∈ cw := cw_of (List.mem_append_right _ (List.mem_append_left _ (List.mem_of_getElem? (i := 48) (by decide +kernel)))) (by decide +kernel)
theorem mw_fl_7_31 : (Cond.fieldLink RX7 31 "LureTown$Tape" "reached" "I" : Cond) ∈ cw := cw_of (List.mem_append_right _ (List.mem_append_left _ (List.mem_of_getElem? (i := 49) (by decide +kernel)))) (by decide +kernel)
theorem mw_fl_7_9 : (Cond.fieldLink RX7 9 "LureTown$Tape" "bytes" "[B" : Cond) ∈ cw := cw_of (List.mem_append_right _ (List.mem_append_left _ (List.mem_of_getElem? (i := 35) (by decide +kernel)))) (by decide +kernel)
theorem dX7_append_0 : decode cX7_append 0 = .ok (.bipush 24, 2) := by decide +kernel
theorem dX7_append_2 : decode cX7_append 2 = .ok (.istore_n 2, 1) := by decide +kernel
theorem dX7_append_3 : decode cX7_append 3 = .ok (.iload_n 2, 1) := by decide +kernel
theorem dX7_append_4 : decode cX7_append 4 = .ok (.ifCond .lt 42, 3) := by decide +kernel
theorem dX7_append_7 : decode cX7_append 7 = .ok (.aload_n 0, 1) := by decide +kernel
theorem dX7_append_8 : decode cX7_append 8 = .ok (.getfield 15, 3) := by decide +kernel
theorem dX7_append_11 : decode cX7_append 11 = .ok (.sipush 400, 3) := by decide +kernel
theorem dX7_append_14 : decode cX7_append 14 = .ok (.if_icmp .ge 26, 3) := by decide +kernel
theorem dX7_append_17 : decode cX7_append 17 = .ok (.aload_n 0, 1) := by decide +kernel
theorem dX7_append_18 : decode cX7_append 18 = .ok (.getfield 9, 3) := by decide +kernel
theorem dX7_append_21 : decode cX7_append 21 = .ok (.aload_n 0, 1) := by decide +kernel
theorem dX7_append_22 : decode cX7_append 22 = .ok (.getfield 15, 3) := by decide +kernel
theorem dX7_append_25 : decode cX7_append 25 = .ok (.iload_n 1, 1) := by decide +kernel
theorem dX7_append_26 : decode cX7_append 26 = .ok (.iload_n 2, 1) := by decide +kernel
theorem dX7_append_27 : decode cX7_append 27 = .ok (.ishr, 1) := by decide +kernel
theorem dX7_append_28 : decode cX7_append 28 = .ok (.i2b, 1) := by decide +kernel
theorem dX7_append_29 : decode cX7_append 29 = .ok (.bastore, 1) := by decide +kernel
theorem dX7_append_30 : decode cX7_append 30 = .ok (.aload_n 0, 1) := by decide +kernel
theorem dX7_append_31 : decode cX7_append 31 = .ok (.dup, 1) := by decide +kernel
theorem dX7_append_32 : decode cX7_append 32 = .ok (.getfield 15, 3) := by decide +kernel
theorem dX7_append_35 : decode cX7_append 35 = .ok (.iconst 1, 1) := by decide +kernel
theorem dX7_append_36 : decode cX7_append 36 = .ok (.iadd, 1) := by decide +kernel
theorem dX7_append_37 : decode cX7_append 37 = .ok (.putfield 15, 3) := by decide +kernel
theorem dX7_append_40 : decode cX7_append 40 = .ok (.iinc 2 (-8), 3) := by decide +kernel
theorem dX7_append_43 : decode cX7_append 43 = .ok (.goto (-40), 3) := by decide +kernel
theorem dX7_append_46 : decode cX7_append 46 = .ok (.return_, 1) := by decide +kernel
theorem dX7_blame_0 : decode cX7_blame 0 = .ok (.aload_n 0, 1) := by decide +kernel
theorem dX7_blame_1 : decode cX7_blame 1 = .ok (.getfield 19, 3) := by decide +kernel
theorem dX7_blame_4 : decode cX7_blame 4 = .ok (.ifCond .ne 18, 3) := by decide +kernel
theorem dX7_blame_7 : decode cX7_blame 7 = .ok (.aload_n 0, 1) := by decide +kernel
theorem dX7_blame_8 : decode cX7_blame 8 = .ok (.iconst 1, 1) := by decide +kernel
theorem dX7_blame_9 : decode cX7_blame 9 = .ok (.bipush 8, 2) := by decide +kernel
theorem dX7_blame_11 : decode cX7_blame 11 = .ok (.aload_n 0, 1) := by decide +kernel
theorem dX7_blame_12 : decode cX7_blame 12 = .ok (.getfield 28, 3) := by decide +kernel
theorem dX7_blame_15 : decode cX7_blame 15 = .ok (.imul, 1) := by decide +kernel
theorem dX7_blame_16 : decode cX7_blame 16 = .ok (.iadd, 1) := by decide +kernel
theorem dX7_blame_17 : decode cX7_blame 17 = .ok (.iload_n 1, 1) := by decide +kernel
theorem dX7_blame_18 : decode cX7_blame 18 = .ok (.iadd, 1) := by decide +kernel
theorem dX7_blame_19 : decode cX7_blame 19 = .ok (.putfield 19, 3) := by decide +kernel
theorem dX7_blame_22 : decode cX7_blame 22 = .ok (.return_, 1) := by decide +kernel
theorem dX7_digitAt_0 : decode cX7_digitAt 0 = .ok (.aload_n 0, 1) := by decide +kernel
theorem dX7_digitAt_1 : decode cX7_digitAt 1 = .ok (.getfield 9, 3) := by decide +kernel
theorem dX7_digitAt_4 : decode cX7_digitAt 4 = .ok (.iload_n 1, 1) := by decide +kernel
theorem dX7_digitAt_5 : decode cX7_digitAt 5 = .ok (.baload, 1) := by decide +kernel
theorem dX7_digitAt_6 : decode cX7_digitAt 6 = .ok (.bipush 48, 2) := by decide +kernel
theorem dX7_digitAt_8 : decode cX7_digitAt 8 = .ok (.if_icmp .lt 18, 3) := by decide +kernel
theorem dX7_digitAt_11 : decode cX7_digitAt 11 = .ok (.aload_n 0, 1) := by decide +kernel
theorem dX7_digitAt_12 : decode cX7_digitAt 12 = .ok (.getfield 9, 3) := by decide +kernel
theorem dX7_digitAt_15 : decode cX7_digitAt 15 = .ok (.iload_n 1, 1) := by decide +kernel
theorem dX7_digitAt_16 : decode cX7_digitAt 16 = .ok (.baload, 1) := by decide +kernel
theorem dX7_digitAt_17 : decode cX7_digitAt 17 = .ok (.bipush 57, 2) := by decide +kernel
theorem dX7_digitAt_19 : decode cX7_digitAt 19 = .ok (.if_icmp .gt 7, 3) := by decide +kernel
theorem dX7_digitAt_22 : decode cX7_digitAt 22 = .ok (.iconst 1, 1) := by decide +kernel
theorem dX7_digitAt_23 : decode cX7_digitAt 23 = .ok (.goto 4, 3) := by decide +kernel
theorem dX7_digitAt_26 : decode cX7_digitAt 26 = .ok (.iconst 0, 1) := by decide +kernel
theorem dX7_digitAt_27 : decode cX7_digitAt 27 = .ok (.ireturn, 1) := by decide +kernel
theorem dX7_letterAt_0 : decode cX7_letterAt 0 = .ok (.aload_n 0, 1) := by decide +kernel
theorem dX7_letterAt_1 : decode cX7_letterAt 1 = .ok (.getfield 9, 3) := by decide +kernel
theorem dX7_letterAt_4 : decode cX7_letterAt 4 = .ok (.iload_n 1, 1) := by decide +kernel
theorem dX7_letterAt_5 : decode cX7_letterAt 5 = .ok (.baload, 1) := by decide +kernel
theorem dX7_letterAt_6 : decode cX7_letterAt 6 = .ok (.bipush 97, 2) := by decide +kernel
theorem dX7_letterAt_8 : decode cX7_letterAt 8 = .ok (.if_icmp .lt 18, 3) := by decide +kernel
theorem dX7_letterAt_11 : decode cX7_letterAt 11 = .ok (.aload_n 0, 1) := by decide +kernel
theorem dX7_letterAt_12 : decode cX7_letterAt 12 = .ok (.getfield 9, 3) := by decide +kernel
theorem dX7_letterAt_15 : decode cX7_letterAt 15 = .ok (.iload_n 1, 1) := by decide +kernel
theorem dX7_letterAt_16 : decode cX7_letterAt 16 = .ok (.baload, 1) := by decide +kernel
theorem dX7_letterAt_17 : decode cX7_letterAt 17 = .ok (.bipush 122, 2) := by decide +kernel
theorem dX7_letterAt_19 : decode cX7_letterAt 19 = .ok (.if_icmp .gt 7, 3) := by decide +kernel
theorem dX7_letterAt_22 : decode cX7_letterAt 22 = .ok (.iconst 1, 1) := by decide +kernel
theorem dX7_letterAt_23 : decode cX7_letterAt 23 = .ok (.goto 4, 3) := by decide +kernel
theorem dX7_letterAt_26 : decode cX7_letterAt 26 = .ok (.iconst 0, 1) := by decide +kernel
theorem dX7_letterAt_27 : decode cX7_letterAt 27 = .ok (.ireturn, 1) := by decide +kernel
theorem dX7_rewind_0 : decode cX7_rewind 0 = .ok (.aload_n 0, 1) := by decide +kernel
theorem dX7_rewind_1 : decode cX7_rewind 1 = .ok (.iconst 0, 1) := by decide +kernel
theorem dX7_rewind_2 : decode cX7_rewind 2 = .ok (.putfield 28, 3) := by decide +kernel
theorem dX7_rewind_5 : decode cX7_rewind 5 = .ok (.aload_n 0, 1) := by decide +kernel
theorem dX7_rewind_6 : decode cX7_rewind 6 = .ok (.iconst 0, 1) := by decide +kernel
theorem dX7_rewind_7 : decode cX7_rewind 7 = .ok (.putfield 31, 3) := by decide +kernel
theorem dX7_rewind_10 : decode cX7_rewind 10 = .ok (.aload_n 0, 1) := by decide +kernel
theorem dX7_rewind_11 : decode cX7_rewind 11 = .ok (.iconst 0, 1) := by decide +kernel
theorem dX7_rewind_12 : decode cX7_rewind 12 = .ok (.putfield 19, 3) := by decide +kernel
theorem dX7_rewind_15 : decode cX7_rewind 15 = .ok (.return_, 1) := by decide +kernel
set_option maxHeartbeats 4000000 in
set_option maxRecDepth 100000 in
theorem tp_append (l : Launch) (D : va_G) (K : Nat → ClassId) (ad : Nat → Nat) (z : TS) (o : Ok z) (p0 : Nat) (ap0 : at_ 7 p0 = true) (x1 : Int32) : cV l yX7_append cX7_append 3 ({ frames := 0, cells := 0, slots := 0, locals := 0 }) D K ad z [.ref (ad p0), .int x1] (fun u => Ok u ∧ KC z u) := by
  refine t_enterV (by decide) (Nat.le_of_ble_eq_true rfl) rfl rfl ?_
  intro p e s m args below meth c A R Q H locs ls E hfr hlo RET G hl
  have E : mE p s m meth c cX7_append args 3 RX7 D K A := E
  have hl : lv_has ls 3 [(0, .ref (ad p0)), (1, .int x1)] := hl
  refine lv_bipush (v := 24) E.1 E.2.1 dX7_append_0 (by decide) ?_
  refine lv_istore_n (lv' := [(2, .int 24), (0, .ref (ad p0)), (1, .int x1)]) E.1 E.2.1 dX7_append_2 rfl hl (by decide) rfl (fun ls hl => ?_)
  have LOOP3 : ∀ n : Nat, ∀ (zz2 : TS) (y1 : Int32) (H : Heap) (locs : List Loc) (ls : Array Slot), mG D A s H locs (wd K ad zz2) → Ok zz2 → KC z zz2 → iv (-8) 24 y1 → y1.toInt < (-8) + (n : Int) → lv_has ls 3 [(2, .int y1), (0, .ref (ad p0)), (1, .int x1)] → W p l e R s m args below meth c H locs 0 0 Q (F0 m 3 ls []) := by
    intro n
    induction n with
    | zero =>
      intro zz2 y1 H locs ls G oo3 kk4 b6 m5 hl
      exact absurd m5 (by have := b6.1; have := b6.2; omega)
    | succ n ih3 =>
      intro zz2 y1 H locs ls G oo3 kk4 b6 m5 hl
      refine lv_iload_n E.1 E.2.1 dX7_append_3 rfl (lv_at hl 0 rfl) ?_
      refine lv_if_lt (tgt := 46) E.1 E.2.1 dX7_append_4 (by decide) (fun c7 => ?_) (fun c7 => ?_)
      · skip
        have b8 : iv (-8) (-1) y1 := lt_l c7 b6 (iv_lit (lo := 0) (hi := 0) 0 (by decide) (by decide)) (by decide)
        exact RET G ⟨oo3, kk4⟩ dX7_append_46
      · skip
        have b9 : iv 0 24 y1 := le_r (Int32.not_lt.mp c7) (iv_lit (lo := 0) (hi := 0) 0 (by decide) (by decide)) b6 (by decide)
        refine lv_aload_n E.1 E.2.1 dX7_append_7 rfl (lv_at hl 1 rfl) ?_
        refine t_get E G 7 1 (at_ro (i := 0) ap0 (by decide) : ro p0 = 7) (C := RX7) (T := TX7) (N := 7) rfl (by decide) (by decide) (by decide) mw_fl_7_15 (fvl_i rfl) dX7_append_8 ?_
        refine lv_topi (fun v10 e11 => ?_)
        have b12 : iv 0 400 v10 := by rw [e11]; exact oo3.i 7 1 (at_ro (i := 0) ap0 (by decide) : ro p0 = 7)
        refine lv_sipush (v := 400) E.1 E.2.1 dX7_append_11 (by decide) ?_
        refine lv_icmp_ge (tgt := 40) E.1 E.2.1 dX7_append_14 (by decide) (fun c13 => ?_) (fun c13 => ?_)
        · skip
          have b14 : iv 400 400 v10 := le_r c13 (iv_lit (lo := 400) (hi := 400) 400 (by decide) (by decide)) b12 (by decide)
          obtain ⟨v15, e16⟩ : ∃ w : Int32, w = y1 + (-8 : Int32) := ⟨_, rfl⟩
          refine lv_iinc (v := v15) (lv' := [(2, .int v15), (0, .ref (ad p0)), (1, .int x1)]) E.1 E.2.1 dX7_append_40 hl (k := 0) rfl (by rw [e16]; rfl) (by decide) rfl (fun ls hl => ?_)
          have b17 : iv (-8) 16 v15 := by rw [e16]; exact iv_add b9 (iv_lit (lo := (-8)) (hi := (-8)) (-8) (by decide) (by decide)) (by decide) (by decide) (by decide) (by decide)
          have t18 : v15.toInt = y1.toInt + (-8) := by rw [e16]; exact ti_addc (-8) (by decide) b9 (by decide) (by decide)
          refine lv_goto (tgt := 3) E.1 E.2.1 dX7_append_43 (by decide) ?_
          exact ih3 zz2 v15 H locs ls G oo3 kk4 (iv_mono b17 (by decide) (by decide)) (by have := t18; have := m5; omega) (lv_sub hl [0, 1, 2] rfl)
        · skip
          have b19 : iv 0 399 v10 := lt_l (Int32.not_le.mp c13) b12 (iv_lit (lo := 400) (hi := 400) 400 (by decide) (by decide)) (by decide)
          refine lv_aload_n E.1 E.2.1 dX7_append_17 rfl (lv_at hl 1 rfl) ?_
          refine t_get E G 7 0 (at_ro (i := 0) ap0 (by decide) : ro p0 = 7) (C := RX7) (T := TX7) (N := 7) rfl (by decide) (by decide) (by decide) mw_fl_7_9 (v := .ref (ad (p0 + 1))) (fvl_o (n := 1) rfl) dX7_append_18 ?_
          refine lv_aload_n E.1 E.2.1 dX7_append_21 rfl (lv_at hl 1 rfl) ?_
          refine t_get E G 7 1 (at_ro (i := 0) ap0 (by decide) : ro p0 = 7) (C := RX7) (T := TX7) (N := 7) rfl (by decide) (by decide) (by decide) mw_fl_7_15 (fvl_i rfl) dX7_append_22 ?_
          refine m_ci v10 e11.symm ?_
          refine lv_iload_n E.1 E.2.1 dX7_append_25 rfl (lv_at hl 2 rfl) ?_
          refine lv_iload_n E.1 E.2.1 dX7_append_26 rfl (lv_at hl 0 rfl) ?_
          refine lv_ishr E.1 E.2.1 dX7_append_27 ?_
          refine lv_topi (fun v20 e21 => ?_)
          refine lv_i2b E.1 E.2.1 dX7_append_28 rfl ?_
          refine t_bast E G 20 (at_ro (i := 1) ap0 (by decide) : ro (p0 + 1) = 20) (by decide) (by decide) rfl (n := 400) rfl (iv_vp b19 (by decide) (by decide)) dX7_append_29 (fun H locs G => ?_)
          obtain ⟨zz22, G, oo23, kk24, h25⟩ : ∃ u : TS, mG D A s H locs (wd K ad u) ∧ Ok u ∧ KC z u ∧ tI u p0 1 = v10 := ⟨_, G, ok_uc oo3 20 (at_ro (i := 1) ap0 (by decide) : ro (p0 + 1) = 20) (by decide) (iv_mono (iv_byte _) (by decide) (by decide)) (by decide), KC.tr kk4 (KC_r 20 (at_ro (i := 1) ap0 (by decide) : ro (p0 + 1) = 20) (by decide)), e11.symm⟩
          refine lv_aload_n E.1 E.2.1 dX7_append_30 rfl (lv_at hl 1 rfl) ?_
          refine lv_dup E.1 E.2.1 dX7_append_31 rfl ?_
          refine t_get E G 7 1 (at_ro (i := 0) ap0 (by decide) : ro p0 = 7) (C := RX7) (T := TX7) (N := 7) rfl (by decide) (by decide) (by decide) mw_fl_7_15 (fvl_i rfl) dX7_append_32 ?_
          refine m_ci v10 h25 ?_
          refine lv_iconst (v := 1) E.1 E.2.1 dX7_append_35 (by decide) ?_
          refine lv_iadd E.1 E.2.1 dX7_append_36 ?_
          refine lv_topi (fun v26 e27 => ?_)
          have b28 : iv 1 400 v26 := by rw [e27]; exact iv_add b19 (iv_lit (lo := 1) (hi := 1) 1 (by decide) (by decide)) (by decide) (by decide) (by decide) (by decide)
          refine t_puti E G 7 1 (at_ro (i := 0) ap0 (by decide) : ro p0 = 7) (C := RX7) (T := TX7) (N := 7) rfl (by decide) (by decide) (by decide) rfl rfl mw_fl_7_15 rfl dX7_append_37 (fun H locs G => ?_)
          obtain ⟨zz29, G, oo30, kk31, h32⟩ : ∃ u : TS, mG D A s H locs (wd K ad u) ∧ Ok u ∧ KC z u ∧ tI u p0 1 = v26 := ⟨_, G, ok_i oo23 7 (at_ro (i := 0) ap0 (by decide) : ro p0 = 7) (iv_mono b28 (by decide) (by decide)) (by decide), KC.tr kk24 (KC_i 7 (at_ro (i := 0) ap0 (by decide) : ro p0 = 7) (by decide)), sI_self⟩
          obtain ⟨v33, e34⟩ : ∃ w : Int32, w = y1 + (-8 : Int32) := ⟨_, rfl⟩
          refine lv_iinc (v := v33) (lv' := [(2, .int v33), (0, .ref (ad p0)), (1, .int x1)]) E.1 E.2.1 dX7_append_40 hl (k := 0) rfl (by rw [e34]; rfl) (by decide) rfl (fun ls hl => ?_)
          have b35 : iv (-8) 16 v33 := by rw [e34]; exact iv_add b9 (iv_lit (lo := (-8)) (hi := (-8)) (-8) (by decide) (by decide)) (by decide) (by decide) (by decide) (by decide)
          have t36 : v33.toInt = y1.toInt + (-8) := by rw [e34]; exact ti_addc (-8) (by decide) b9 (by decide) (by decide)
          refine lv_goto (tgt := 3) E.1 E.2.1 dX7_append_43 (by decide) ?_
          exact ih3 zz29 v33 H locs ls G oo30 kk31 (iv_mono b35 (by decide) (by decide)) (by have := t36; have := m5; omega) (lv_sub hl [0, 1, 2] rfl)
  exact LOOP3 33 z 24 H locs ls G o KC.rf (iv_mono (iv_lit (lo := 24) (hi := 24) 24 (by decide) (by decide)) (by decide) (by decide)) (by have := (iv_lit (lo := 24) (hi := 24) 24 (by decide) (by decide)).2; omega) (lv_sub hl [0, 1, 2] rfl)
set_option maxHeartbeats 4000000 in
set_option maxRecDepth 100000 in
theorem tp_rewind (l : Launch) (D : va_G) (K : Nat → ClassId) (ad : Nat → Nat) (z : TS) (o : Ok z) (p0 : Nat) (ap0 : at_ 7 p0 = true) : cV l yX7_rewind cX7_rewind 1 ({ frames := 0, cells := 0, slots := 0, locals := 0 }) D K ad z [.ref (ad p0)] (fun u => Ok u ∧ KT z u) := by
  refine t_enterV (by decide) (Nat.le_of_ble_eq_true rfl) rfl rfl ?_
  intro p e s m args below meth c A R Q H locs ls E hfr hlo RET G hl
  have E : mE p s m meth c cX7_rewind args 1 RX7 D K A := E
  have hl : lv_has ls 1 [(0, .ref (ad p0))] := hl
  refine lv_aload_n E.1 E.2.1 dX7_rewind_0 rfl (lv_at hl 0 rfl) ?_
  refine lv_iconst (v := 0) E.1 E.2.1 dX7_rewind_1 (by decide) ?_
  refine t_puti E G 7 5 (at_ro (i := 0) ap0 (by decide) : ro p0 = 7) (C := RX7) (T := TX7) (N := 7) rfl (by decide) (by decide) (by decide) rfl rfl mw_fl_7_28 rfl dX7_rewind_2 (fun H locs G => ?_)
  obtain ⟨zz1, G, oo2, kk3, h4⟩ : ∃ u : TS, mG D A s H locs (wd K ad u) ∧ Ok u ∧ KT z u ∧ tI u p0 5 = 0 := ⟨_, G, ok_i o 7 (at_ro (i := 0) ap0 (by decide) : ro p0 = 7) (iv_mono (iv_lit (lo := 0) (hi := 0) 0 (by decide) (by decide)) (by decide) (by decide)) (by decide), KF.tr KF.rf (KF_i 7 (at_ro (i := 0) ap0 (by decide) : ro p0 = 7) (by decide)), sI_self⟩
  refine lv_aload_n E.1 E.2.1 dX7_rewind_5 rfl (lv_at hl 0 rfl) ?_
  refine lv_iconst (v := 0) E.1 E.2.1 dX7_rewind_6 (by decide) ?_
  refine t_puti E G 7 6 (at_ro (i := 0) ap0 (by decide) : ro p0 = 7) (C := RX7) (T := TX7) (N := 7) rfl (by decide) (by decide) (by decide) rfl rfl mw_fl_7_31 rfl dX7_rewind_7 (fun H locs G => ?_)
  obtain ⟨zz5, G, oo6, kk7, h8, h9⟩ : ∃ u : TS, mG D A s H locs (wd K ad u) ∧ Ok u ∧ KT z u ∧ tI u p0 5 = 0 ∧ tI u p0 6 = 0 := ⟨_, G, ok_i oo2 7 (at_ro (i := 0) ap0 (by decide) : ro p0 = 7) (iv_mono (iv_lit (lo := 0) (hi := 0) 0 (by decide) (by decide)) (by decide) (by decide)) (by decide), KF.tr kk3 (KF_i 7 (at_ro (i := 0) ap0 (by decide) : ro p0 = 7) (by decide)), (sI_k h4 (by decide)), sI_self⟩
  refine lv_aload_n E.1 E.2.1 dX7_rewind_10 rfl (lv_at hl 0 rfl) ?_
  refine lv_iconst (v := 0) E.1 E.2.1 dX7_rewind_11 (by decide) ?_
  refine t_puti E G 7 2 (at_ro (i := 0) ap0 (by decide) : ro p0 = 7) (C := RX7) (T := TX7) (N := 7) rfl (by decide) (by decide) (by decide) rfl rfl mw_fl_7_19 rfl dX7_rewind_12 (fun H locs G => ?_)
  obtain ⟨zz10, G, oo11, kk12, h13, h14, h15⟩ : ∃ u : TS, mG D A s H locs (wd K ad u) ∧ Ok u ∧ KT z u ∧ tI u p0 5 = 0 ∧ tI u p0 6 = 0 ∧ tI u p0 2 = 0 := ⟨_, G, ok_i oo6 7 (at_ro (i := 0) ap0 (by decide) : ro p0 = 7) (iv_mono (iv_lit (lo := 0) (hi := 0) 0 (by decide) (by decide)) (by decide) (by decide)) (by decide), KF.tr kk7 (KF_i 7 (at_ro (i := 0) ap0 (by decide) : ro p0 = 7) (by decide)), (sI_k h8 (by decide)), (sI_k h9 (by decide)), sI_self⟩
  exact RET G ⟨oo11, kk12⟩ dX7_rewind_15
set_option maxHeartbeats 4000000 in
set_option maxRecDepth 100000 in
theorem tp_blame (l : Launch) (D : va_G) (K : Nat → ClassId) (ad : Nat → Nat) (z : TS) (o : Ok z) (p0 : Nat) (ap0 : at_ 7 p0 = true) (x1 : Int32) : cV l yX7_blame cX7_blame 2 ({ frames := 0, cells := 0, slots := 0, locals := 0 }) D K ad z [.ref (ad p0), .int x1] (fun u => Ok u ∧ KT z u) := by
  refine t_enterV (by decide) (Nat.le_of_ble_eq_true rfl) rfl rfl ?_
  intro p e s m args below meth c A R Q H locs ls E hfr hlo RET G hl
  have E : mE p s m meth c cX7_blame args 2 RX7 D K A := E
  have hl : lv_has ls 2 [(0, .ref (ad p0)), (1, .int x1)] := hl
  refine lv_aload_n E.1 E.2.1 dX7_blame_0 rfl (lv_at hl 0 rfl) ?_
  refine t_get E G 7 2 (at_ro (i := 0) ap0 (by decide) : ro p0 = 7) (C := RX7) (T := TX7) (N := 7) rfl (by decide) (by decide) (by decide) mw_fl_7_19 (fvl_i rfl) dX7_blame_1 ?_
  refine lv_topi (fun v1 e2 => ?_)
  refine lv_if_ne (tgt := 22) E.1 E.2.1 dX7_blame_4 (by decide) (fun c3 => ?_) (fun c3 => ?_)
  · skip
    exact RET G ⟨o, KF.rf⟩ dX7_blame_22
  · skip
    have b4 : iv 0 0 v1 := iv_eq c3 (iv_lit (lo := 0) (hi := 0) 0 (by decide) (by decide))
    refine lv_aload_n E.1 E.2.1 dX7_blame_7 rfl (lv_at hl 0 rfl) ?_
    refine lv_iconst (v := 1) E.1 E.2.1 dX7_blame_8 (by decide) ?_
    refine lv_bipush (v := 8) E.1 E.2.1 dX7_blame_9 (by decide) ?_
    refine lv_aload_n E.1 E.2.1 dX7_blame_11 rfl (lv_at hl 0 rfl) ?_
    refine t_get E G 7 5 (at_ro (i := 0) ap0 (by decide) : ro p0 = 7) (C := RX7) (T := TX7) (N := 7) rfl (by decide) (by decide) (by decide) mw_fl_7_28 (fvl_i rfl) dX7_blame_12 ?_
    refine lv_topi (fun v5 e6 => ?_)
    have b7 : iv 0 400 v5 := by rw [e6]; exact o.i 7 5 (at_ro (i := 0) ap0 (by decide) : ro p0 = 7)
    refine lv_imul E.1 E.2.1 dX7_blame_15 ?_
    refine lv_topi (fun v8 e9 => ?_)
    have b10 : iv 0 3200 v8 := by rw [e9]; exact iv_mulc' b7 8 (by decide) (by decide) (by decide) (by decide) (by decide) (by decide)
    refine lv_iadd E.1 E.2.1 dX7_blame_16 ?_
    refine lv_topi (fun v11 e12 => ?_)
    have b13 : iv 1 3201 v11 := by rw [e12]; exact iv_add (iv_lit (lo := 1) (hi := 1) 1 (by decide) (by decide)) b10 (by decide) (by decide) (by decide) (by decide)
    refine lv_iload_n E.1 E.2.1 dX7_blame_17 rfl (lv_at hl 1 rfl) ?_
    refine lv_iadd E.1 E.2.1 dX7_blame_18 ?_
    refine lv_topi (fun v14 e15 => ?_)
    refine t_puti E G 7 2 (at_ro (i := 0) ap0 (by decide) : ro p0 = 7) (C := RX7) (T := TX7) (N := 7) rfl (by decide) (by decide) (by decide) rfl rfl mw_fl_7_19 rfl dX7_blame_19 (fun H locs G => ?_)
    obtain ⟨zz16, G, oo17, kk18, h19, h20⟩ : ∃ u : TS, mG D A s H locs (wd K ad u) ∧ Ok u ∧ KT z u ∧ tI u p0 5 = v5 ∧ tI u p0 2 = v14 := ⟨_, G, ok_i o 7 (at_ro (i := 0) ap0 (by decide) : ro p0 = 7) (iv_mono (iv_full v14) (by decide) (by decide)) (by decide), KF.tr KF.rf (KF_i 7 (at_ro (i := 0) ap0 (by decide) : ro p0 = 7) (by decide)), (sI_k e6.symm (by decide)), sI_self⟩
    exact RET G ⟨oo17, kk18⟩ dX7_blame_22
set_option maxHeartbeats 4000000 in
set_option maxRecDepth 100000 in
theorem tp_digitAt (l : Launch) (D : va_G) (K : Nat → ClassId) (ad : Nat → Nat) (z : TS) (o : Ok z) (p0 : Nat) (ap0 : at_ 7 p0 = true) (x1 : Int32) (bx1 : iv 0 399 x1) : cI l yX7_digitAt cX7_digitAt 2 .boolean ({ frames := 0, cells := 0, slots := 0, locals := 0 }) D K ad z [.ref (ad p0), .int x1] (fun r u => u = z ∧ iv 0 1 r ∧ (¬ r = 0 → iv 48 57 (tA z (p0 + 1) x1.toNatClampNeg))) := by
  refine t_enterI (by decide) (Nat.le_of_ble_eq_true rfl) rfl rfl ?_
  intro p e s m args below meth c A R Q H locs ls E hfr hlo RET G hl
  have E : mE p s m meth c cX7_digitAt args 2 RX7 D K A := E
  have hl : lv_has ls 2 [(0, .ref (ad p0)), (1, .int x1)] := hl
  refine lv_aload_n E.1 E.2.1 dX7_digitAt_0 rfl (lv_at hl 0 rfl) ?_
  refine t_get E G 7 0 (at_ro (i := 0) ap0 (by decide) : ro p0 = 7) (C := RX7) (T := TX7) (N := 7) rfl (by decide) (by decide) (by decide) mw_fl_7_9 (v := .ref (ad (p0 + 1))) (fvl_o (n := 1) rfl) dX7_digitAt_1 ?_
  refine lv_iload_n E.1 E.2.1 dX7_digitAt_4 rfl (lv_at hl 1 rfl) ?_
  refine t_bald E G 20 (at_ro (i := 1) ap0 (by decide) : ro (p0 + 1) = 20) (by decide) (by decide) rfl (n := 400) rfl (iv_vp bx1 (by decide) (by decide)) dX7_digitAt_5 ?_
  refine lv_topi (fun v1 e2 => ?_)
  have b3 : iv (-128) 127 v1 := by rw [e2]; exact o.ac 20 (at_ro (i := 1) ap0 (by decide) : ro (p0 + 1) = 20) (by decide) _
  refine lv_bipush (v := 48) E.1 E.2.1 dX7_digitAt_6 (by decide) ?_
  refine lv_icmp_lt (tgt := 26) E.1 E.2.1 dX7_digitAt_8 (by decide) (fun c4 => ?_) (fun c4 => ?_)
  · skip
    have b5 : iv (-128) 47 v1 := lt_l c4 b3 (iv_lit (lo := 48) (hi := 48) 48 (by decide) (by decide)) (by decide)
    refine lv_iconst (v := 0) E.1 E.2.1 dX7_digitAt_26 (by decide) ?_
    exact RET G ⟨rfl, (iv_mono (iv_lit (lo := 0) (hi := 0) 0 (by decide) (by decide)) (by decide) (by decide)), (fun h => absurd rfl h)⟩ (by decide) dX7_digitAt_27
  · skip
    have b6 : iv 48 127 v1 := le_r (Int32.not_lt.mp c4) (iv_lit (lo := 48) (hi := 48) 48 (by decide) (by decide)) b3 (by decide)
    refine lv_aload_n E.1 E.2.1 dX7_digitAt_11 rfl (lv_at hl 0 rfl) ?_
    refine t_get E G 7 0 (at_ro (i := 0) ap0 (by decide) : ro p0 = 7) (C := RX7) (T := TX7) (N := 7) rfl (by decide) (by decide) (by decide) mw_fl_7_9 (v := .ref (ad (p0 + 1))) (fvl_o (n := 1) rfl) dX7_digitAt_12 ?_
    refine lv_iload_n E.1 E.2.1 dX7_digitAt_15 rfl (lv_at hl 1 rfl) ?_
    refine t_bald E G 20 (at_ro (i := 1) ap0 (by decide) : ro (p0 + 1) = 20) (by decide) (by decide) rfl (n := 400) rfl (iv_vp bx1 (by decide) (by decide)) dX7_digitAt_16 ?_
    refine m_ci v1 e2.symm ?_
    refine lv_bipush (v := 57) E.1 E.2.1 dX7_digitAt_17 (by decide) ?_
    refine lv_icmp_gt (tgt := 26) E.1 E.2.1 dX7_digitAt_19 (by decide) (fun c7 => ?_) (fun c7 => ?_)
    · skip
      have b8 : iv 58 127 v1 := lt_r c7 (iv_lit (lo := 57) (hi := 57) 57 (by decide) (by decide)) b6 (by decide)
      refine lv_iconst (v := 0) E.1 E.2.1 dX7_digitAt_26 (by decide) ?_
      exact RET G ⟨rfl, (iv_mono (iv_lit (lo := 0) (hi := 0) 0 (by decide) (by decide)) (by decide) (by decide)), (fun h => absurd rfl h)⟩ (by decide) dX7_digitAt_27
    · skip
      have b9 : iv 48 57 v1 := le_l (Int32.not_lt.mp c7) b6 (iv_lit (lo := 57) (hi := 57) 57 (by decide) (by decide)) (by decide)
      refine lv_iconst (v := 1) E.1 E.2.1 dX7_digitAt_22 (by decide) ?_
      refine lv_goto (tgt := 27) E.1 E.2.1 dX7_digitAt_23 (by decide) ?_
      exact RET G ⟨rfl, (iv_mono (iv_lit (lo := 1) (hi := 1) 1 (by decide) (by decide)) (by decide) (by decide)), (fun _ => by rw [e2.symm]; exact iv_mono b9 (by decide) (by decide))⟩ (by decide) dX7_digitAt_27
set_option maxHeartbeats 4000000 in
set_option maxRecDepth 100000 in
theorem tp_letterAt (l : Launch) (D : va_G) (K : Nat → ClassId) (ad : Nat → Nat) (z : TS) (o : Ok z) (p0 : Nat) (ap0 : at_ 7 p0 = true) (x1 : Int32) (bx1 : iv 0 399 x1) : cI l yX7_letterAt cX7_letterAt 2 .boolean ({ frames := 0, cells := 0, slots := 0, locals := 0 }) D K ad z [.ref (ad p0), .int x1] (fun r u => u = z ∧ iv 0 1 r ∧ (¬ r = 0 → iv 97 122 (tA z (p0 + 1) x1.toNatClampNeg))) := by
  refine t_enterI (by decide) (Nat.le_of_ble_eq_true rfl) rfl rfl ?_
  intro p e s m args below meth c A R Q H locs ls E hfr hlo RET G hl
  have E : mE p s m meth c cX7_letterAt args 2 RX7 D K A := E
  have hl : lv_has ls 2 [(0, .ref (ad p0)), (1, .int x1)] := hl
  refine lv_aload_n E.1 E.2.1 dX7_letterAt_0 rfl (lv_at hl 0 rfl) ?_
  refine t_get E G 7 0 (at_ro (i := 0) ap0 (by decide) : ro p0 = 7) (C := RX7) (T := TX7) (N := 7) rfl (by decide) (by decide) (by decide) mw_fl_7_9 (v := .ref (ad (p0 + 1))) (fvl_o (n := 1) rfl) dX7_letterAt_1 ?_
  refine lv_iload_n E.1 E.2.1 dX7_letterAt_4 rfl (lv_at hl 1 rfl) ?_
  refine t_bald E G 20 (at_ro (i := 1) ap0 (by decide) : ro (p0 + 1) = 20) (by decide) (by decide) rfl (n := 400) rfl (iv_vp bx1 (by decide) (by decide)) dX7_letterAt_5 ?_
  refine lv_topi (fun v1 e2 => ?_)
  have b3 : iv (-128) 127 v1 := by rw [e2]; exact o.ac 20 (at_ro (i := 1) ap0 (by decide) : ro (p0 + 1) = 20) (by decide) _
  refine lv_bipush (v := 97) E.1 E.2.1 dX7_letterAt_6 (by decide) ?_
  refine lv_icmp_lt (tgt := 26) E.1 E.2.1 dX7_letterAt_8 (by decide) (fun c4 => ?_) (fun c4 => ?_)
  · skip
    have b5 : iv (-128) 96 v1 := lt_l c4 b3 (iv_lit (lo := 97) (hi := 97) 97 (by decide) (by decide)) (by decide)
    refine lv_iconst (v := 0) E.1 E.2.1 dX7_letterAt_26 (by decide) ?_
    exact RET G ⟨rfl, (iv_mono (iv_lit (lo := 0) (hi := 0) 0 (by decide) (by decide)) (by decide) (by decide)), (fun h => absurd rfl h)⟩ (by decide) dX7_letterAt_27
  · skip
    have b6 : iv 97 127 v1 := le_r (Int32.not_lt.mp c4) (iv_lit (lo := 97) (hi := 97) 97 (by decide) (by decide)) b3 (by decide)
    refine lv_aload_n E.1 E.2.1 dX7_letterAt_11 rfl (lv_at hl 0 rfl) ?_
    refine t_get E G 7 0 (at_ro (i := 0) ap0 (by decide) : ro p0 = 7) (C := RX7) (T := TX7) (N := 7) rfl (by decide) (by decide) (by decide) mw_fl_7_9 (v := .ref (ad (p0 + 1))) (fvl_o (n := 1) rfl) dX7_letterAt_12 ?_
    refine lv_iload_n E.1 E.2.1 dX7_letterAt_15 rfl (lv_at hl 1 rfl) ?_
    refine t_bald E G 20 (at_ro (i := 1) ap0 (by decide) : ro (p0 + 1) = 20) (by decide) (by decide) rfl (n := 400) rfl (iv_vp bx1 (by decide) (by decide)) dX7_letterAt_16 ?_
    refine m_ci v1 e2.symm ?_
    refine lv_bipush (v := 122) E.1 E.2.1 dX7_letterAt_17 (by decide) ?_
    refine lv_icmp_gt (tgt := 26) E.1 E.2.1 dX7_letterAt_19 (by decide) (fun c7 => ?_) (fun c7 => ?_)
    · skip
      have b8 : iv 123 127 v1 := lt_r c7 (iv_lit (lo := 122) (hi := 122) 122 (by decide) (by decide)) b6 (by decide)
      refine lv_iconst (v := 0) E.1 E.2.1 dX7_letterAt_26 (by decide) ?_
      exact RET G ⟨rfl, (iv_mono (iv_lit (lo := 0) (hi := 0) 0 (by decide) (by decide)) (by decide) (by decide)), (fun h => absurd rfl h)⟩ (by decide) dX7_letterAt_27
    · skip
      have b9 : iv 97 122 v1 := le_l (Int32.not_lt.mp c7) b6 (iv_lit (lo := 122) (hi := 122) 122 (by decide) (by decide)) (by decide)
      refine lv_iconst (v := 1) E.1 E.2.1 dX7_letterAt_22 (by decide) ?_
      refine lv_goto (tgt := 27) E.1 E.2.1 dX7_letterAt_23 (by decide) ?_
      exact RET G ⟨rfl, (iv_mono (iv_lit (lo := 1) (hi := 1) 1 (by decide) (by decide)) (by decide) (by decide)), (fun _ => by rw [e2.symm]; exact iv_mono b9 (by decide) (by decide))⟩ (by decide) dX7_letterAt_27
