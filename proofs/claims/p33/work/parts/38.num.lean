theorem mw_code_X7_digitAt : (Cond.code yX7_digitAt cX7_digitAt 2 (some .boolean) : Cond) ∈ cw := cw_of (List.mem_append_right _ (List.mem_append_right _ (List.mem_append_left _ (List.mem_of_getElem? (i := 219) rfl)))) (by decide +kernel)
theorem mw_fl_7_22 : (Cond.fieldLink RX7 22 "LureTown$Tape" "token" "I" : Cond) ∈ cw := cw_of (List.mem_append_right _ (List.mem_append_left _ (List.mem_of_getElem? (i := 42) (by decide +kernel)))) (by decide +kernel)
theorem mw_fl_7_25 : (Cond.fieldLink RX7 25 "LureTown$Tape" "number" "I" : Cond) ∈ cw := cw_of (List.mem_append_right _ (List.mem_append_left _ (List.mem_of_getElem? (i := 45) (by decide +kernel)))) (by decide +kernel)
theorem mw_inst_X7_digitAt : (Cond.instanceMethod yX7_digitAt : Cond) ∈ cw := cw_of (List.mem_append_right _ (List.mem_append_right _ (List.mem_append_left _ (List.mem_of_getElem? (i := 218) (by decide +kernel))))) (by decide +kernel)
theorem mw_ml_7_34 : (Cond.methodLink RX7 34 yX7_digitAt : Cond) ∈ cw := cw_of (List.mem_append_right _ (List.mem_append_right _ (List.mem_append_left _ (List.mem_of_getElem? (i := 216) (by decide +kernel))))) (by decide +kernel)
theorem mw_sel_X7_digitAt : (Cond.selects RX7 yX7_digitAt yX7_digitAt : Cond) ∈ cw := cw_of (List.mem_append_left _ (List.mem_of_getElem? (i := 1) (by decide +kernel))) (by decide +kernel)
theorem dX7_readNumber_0 : decode cX7_readNumber 0 = .ok (.aload_n 0, 1) := by decide +kernel
theorem dX7_readNumber_1 : decode cX7_readNumber 1 = .ok (.bipush 42, 2) := by decide +kernel
theorem dX7_readNumber_3 : decode cX7_readNumber 3 = .ok (.putfield 22, 3) := by decide +kernel
theorem dX7_readNumber_6 : decode cX7_readNumber 6 = .ok (.aload_n 0, 1) := by decide +kernel
theorem dX7_readNumber_7 : decode cX7_readNumber 7 = .ok (.iconst 0, 1) := by decide +kernel
theorem dX7_readNumber_8 : decode cX7_readNumber 8 = .ok (.putfield 25, 3) := by decide +kernel
theorem dX7_readNumber_11 : decode cX7_readNumber 11 = .ok (.aload_n 0, 1) := by decide +kernel
theorem dX7_readNumber_12 : decode cX7_readNumber 12 = .ok (.getfield 31, 3) := by decide +kernel
theorem dX7_readNumber_15 : decode cX7_readNumber 15 = .ok (.aload_n 0, 1) := by decide +kernel
theorem dX7_readNumber_16 : decode cX7_readNumber 16 = .ok (.getfield 15, 3) := by decide +kernel
theorem dX7_readNumber_19 : decode cX7_readNumber 19 = .ok (.if_icmp .ge 64, 3) := by decide +kernel
theorem dX7_readNumber_22 : decode cX7_readNumber 22 = .ok (.aload_n 0, 1) := by decide +kernel
theorem dX7_readNumber_23 : decode cX7_readNumber 23 = .ok (.aload_n 0, 1) := by decide +kernel
theorem dX7_readNumber_24 : decode cX7_readNumber 24 = .ok (.getfield 31, 3) := by decide +kernel
theorem dX7_readNumber_27 : decode cX7_readNumber 27 = .ok (.invokevirtual 34, 3) := by decide +kernel
theorem dX7_readNumber_30 : decode cX7_readNumber 30 = .ok (.ifCond .eq 53, 3) := by decide +kernel
theorem dX7_readNumber_33 : decode cX7_readNumber 33 = .ok (.aload_n 0, 1) := by decide +kernel
theorem dX7_readNumber_34 : decode cX7_readNumber 34 = .ok (.getfield 31, 3) := by decide +kernel
theorem dX7_readNumber_37 : decode cX7_readNumber 37 = .ok (.aload_n 0, 1) := by decide +kernel
theorem dX7_readNumber_38 : decode cX7_readNumber 38 = .ok (.getfield 28, 3) := by decide +kernel
theorem dX7_readNumber_41 : decode cX7_readNumber 41 = .ok (.isub, 1) := by decide +kernel
theorem dX7_readNumber_42 : decode cX7_readNumber 42 = .ok (.iconst 5, 1) := by decide +kernel
theorem dX7_readNumber_43 : decode cX7_readNumber 43 = .ok (.if_icmp .ge 27, 3) := by decide +kernel
theorem dX7_readNumber_46 : decode cX7_readNumber 46 = .ok (.aload_n 0, 1) := by decide +kernel
theorem dX7_readNumber_47 : decode cX7_readNumber 47 = .ok (.aload_n 0, 1) := by decide +kernel
theorem dX7_readNumber_48 : decode cX7_readNumber 48 = .ok (.getfield 25, 3) := by decide +kernel
theorem dX7_readNumber_51 : decode cX7_readNumber 51 = .ok (.bipush 10, 2) := by decide +kernel
theorem dX7_readNumber_53 : decode cX7_readNumber 53 = .ok (.imul, 1) := by decide +kernel
theorem dX7_readNumber_54 : decode cX7_readNumber 54 = .ok (.aload_n 0, 1) := by decide +kernel
theorem dX7_readNumber_55 : decode cX7_readNumber 55 = .ok (.getfield 9, 3) := by decide +kernel
theorem dX7_readNumber_58 : decode cX7_readNumber 58 = .ok (.aload_n 0, 1) := by decide +kernel
theorem dX7_readNumber_59 : decode cX7_readNumber 59 = .ok (.getfield 31, 3) := by decide +kernel
theorem dX7_readNumber_62 : decode cX7_readNumber 62 = .ok (.baload, 1) := by decide +kernel
theorem dX7_readNumber_63 : decode cX7_readNumber 63 = .ok (.iadd, 1) := by decide +kernel
theorem dX7_readNumber_64 : decode cX7_readNumber 64 = .ok (.bipush 48, 2) := by decide +kernel
theorem dX7_readNumber_66 : decode cX7_readNumber 66 = .ok (.isub, 1) := by decide +kernel
theorem dX7_readNumber_67 : decode cX7_readNumber 67 = .ok (.putfield 25, 3) := by decide +kernel
theorem dX7_readNumber_70 : decode cX7_readNumber 70 = .ok (.aload_n 0, 1) := by decide +kernel
theorem dX7_readNumber_71 : decode cX7_readNumber 71 = .ok (.dup, 1) := by decide +kernel
theorem dX7_readNumber_72 : decode cX7_readNumber 72 = .ok (.getfield 31, 3) := by decide +kernel
theorem dX7_readNumber_75 : decode cX7_readNumber 75 = .ok (.iconst 1, 1) := by decide +kernel
theorem dX7_readNumber_76 : decode cX7_readNumber 76 = .ok (.iadd, 1) := by decide +kernel
theorem dX7_readNumber_77 : decode cX7_readNumber 77 = .ok (.putfield 31, 3) := by decide +kernel
theorem dX7_readNumber_80 : decode cX7_readNumber 80 = .ok (.goto (-69), 3) := by decide +kernel
theorem dX7_readNumber_83 : decode cX7_readNumber 83 = .ok (.aload_n 0, 1) := by decide +kernel
theorem dX7_readNumber_84 : decode cX7_readNumber 84 = .ok (.getfield 31, 3) := by decide +kernel
theorem dX7_readNumber_87 : decode cX7_readNumber 87 = .ok (.aload_n 0, 1) := by decide +kernel
theorem dX7_readNumber_88 : decode cX7_readNumber 88 = .ok (.getfield 28, 3) := by decide +kernel
theorem dX7_readNumber_91 : decode cX7_readNumber 91 = .ok (.isub, 1) := by decide +kernel
theorem dX7_readNumber_92 : decode cX7_readNumber 92 = .ok (.iconst 5, 1) := by decide +kernel
theorem dX7_readNumber_93 : decode cX7_readNumber 93 = .ok (.if_icmp .le 8, 3) := by decide +kernel
theorem dX7_readNumber_96 : decode cX7_readNumber 96 = .ok (.aload_n 0, 1) := by decide +kernel
theorem dX7_readNumber_97 : decode cX7_readNumber 97 = .ok (.iconst (-1), 1) := by decide +kernel
theorem dX7_readNumber_98 : decode cX7_readNumber 98 = .ok (.putfield 25, 3) := by decide +kernel
theorem dX7_readNumber_101 : decode cX7_readNumber 101 = .ok (.return_, 1) := by decide +kernel
theorem hd_X7_digitAt : yX7_digitAt.cls ≠ "java/lang/invoke/MethodHandle" ∧ yX7_digitAt.cls ≠ "java/lang/invoke/VarHandle" ∧ (parseMethodDescriptor yX7_digitAt.desc).map (fun d => d.parameters.length) = some 1 := ⟨by decide +kernel, by decide +kernel, by decide +kernel⟩
/-- what a number's first digits can make -/
def nb (r s x : Int) : Prop := s ≤ r ∧ 0 ≤ x ∧ (r ≤ s → x ≤ 0) ∧ (r ≤ s + 1 → x ≤ 9) ∧ (r ≤ s + 2 → x ≤ 99) ∧ (r ≤ s + 3 → x ≤ 999) ∧ (r ≤ s + 4 → x ≤ 9999) ∧ x ≤ 99999
theorem nb_0 (a : Int) : nb a a (0 : Int32).toInt := by
  have e : (0 : Int32).toInt = 0 := by decide
  unfold nb; rw [e]; omega
theorem nb_st {r s x : Int} (h : nb r s x) (hd : 5 ≤ r - s) : nb (r + 1) s x := by
  unfold nb at h ⊢; omega
theorem nb_up {v6 v5 v4 w : Int32} (h : nb v6.toInt v5.toInt v4.toInt) (b6 : iv 0 400 v6) (b5 : iv 0 400 v5) (hd : ¬ (5 : Int32) ≤ v6 - v5) (hw : iv 48 57 w) : nb (v6.toInt + 1) v5.toInt (v4 * 10 + w - 48).toInt := by
  obtain ⟨a1, a2⟩ := b6
  obtain ⟨c1, c2⟩ := b5
  obtain ⟨w1, w2⟩ := hw
  have hs : (v6 - v5).toInt = v6.toInt - v5.toInt := ti_sub (by omega) (by omega)
  have h5 : (v6 - v5).toInt < 5 := by
    have := Int32.lt_iff_toInt_lt.mp (Int32.not_le.mp hd)
    rwa [show (5 : Int32).toInt = 5 by decide] at this
  have e10 : (10 : Int32).toInt = 10 := by decide
  have e48 : (48 : Int32).toInt = 48 := by decide
  unfold nb at h ⊢
  have x9 : v4.toInt ≤ 9999 := by omega
  have m1 : (v4 * 10).toInt = v4.toInt * 10 := by
    rw [ti_mul (by rw [e10]; omega) (by rw [e10]; omega), e10]
  have m2 : (v4 * 10 + w).toInt = v4.toInt * 10 + w.toInt := by
    rw [ti_add (by rw [m1]; omega) (by rw [m1]; omega), m1]
  have m3 : (v4 * 10 + w - 48).toInt = v4.toInt * 10 + w.toInt - 48 := by
    rw [ti_sub (by rw [m2, e48]; omega) (by rw [m2, e48]; omega), m2, e48]
  rw [m3]
  omega
theorem nb_sd {v6 v5 : Int32} (b6 : iv 0 400 v6) (b5 : iv 0 400 v5) (hd : (5 : Int32) ≤ v6 - v5) : 5 ≤ v6.toInt - v5.toInt := by
  obtain ⟨a1, a2⟩ := b6
  obtain ⟨c1, c2⟩ := b5
  have hs : (v6 - v5).toInt = v6.toInt - v5.toInt := ti_sub (by omega) (by omega)
  have := Int32.le_iff_toInt_le.mp hd
  rw [show (5 : Int32).toInt = 5 by decide, hs] at this
  exact this
theorem nb_iv {r s : Int} {x : Int32} (h : nb r s x.toInt) : iv 0 99999 x := ⟨h.2.1, h.2.2.2.2.2.2.2⟩
set_option maxHeartbeats 4000000 in
set_option maxRecDepth 100000 in
theorem tp_readNumber (l : Launch) (D : va_G) (K : Nat → ClassId) (ad : Nat → Nat) (z : TS) (o : Ok z) (p0 : Nat) (ap0 : at_ 7 p0 = true) (hs : tI z p0 5 = tI z p0 6) : cV l yX7_readNumber cX7_readNumber 1 ({ frames := 1, cells := 0, slots := 0, locals := 21 }) D K ad z [.ref (ad p0)] (fun u => Ok u ∧ KT z u) := by
  refine t_enterV (by decide) (Nat.le_of_ble_eq_true rfl) rfl rfl ?_
  intro p e s m args below meth c A R Q H locs ls E hfr hlo RET G hl
  have E : mE p s m meth c cX7_readNumber args 1 RX7 D K A := E
  have hl : lv_has ls 1 [(0, .ref (ad p0))] := hl
  refine lv_aload_n E.1 E.2.1 dX7_readNumber_0 rfl (lv_at hl 0 rfl) ?_
  refine lv_bipush (v := 42) E.1 E.2.1 dX7_readNumber_1 (by decide) ?_
  refine t_puti E G 7 3 (at_ro (i := 0) ap0 (by decide) : ro p0 = 7) (C := RX7) (T := TX7) (N := 7) rfl (by decide) (by decide) (by decide) rfl rfl mw_fl_7_22 rfl dX7_readNumber_3 (fun H locs G => ?_)
  obtain ⟨zz1, G, oo2, kk3, h4, h5, h6⟩ : ∃ u : TS, mG D A s H locs (wd K ad u) ∧ Ok u ∧ KT z u ∧ tI u p0 5 = (tI z p0 5) ∧ tI u p0 6 = (tI z p0 6) ∧ tI u p0 3 = 42 := ⟨_, G, ok_i o 7 (at_ro (i := 0) ap0 (by decide) : ro p0 = 7) (iv_mono (iv_lit (lo := 42) (hi := 42) 42 (by decide) (by decide)) (by decide) (by decide)) (by decide), KF.tr KF.rf (KF_i 7 (at_ro (i := 0) ap0 (by decide) : ro p0 = 7) (by decide)), (sI_k rfl (by decide)), (sI_k rfl (by decide)), sI_self⟩
  refine lv_aload_n E.1 E.2.1 dX7_readNumber_6 rfl (lv_at hl 0 rfl) ?_
  refine lv_iconst (v := 0) E.1 E.2.1 dX7_readNumber_7 (by decide) ?_
  refine t_puti E G 7 4 (at_ro (i := 0) ap0 (by decide) : ro p0 = 7) (C := RX7) (T := TX7) (N := 7) rfl (by decide) (by decide) (by decide) rfl rfl mw_fl_7_25 rfl dX7_readNumber_8 (fun H locs G => ?_)
  obtain ⟨zz7, G, oo8, kk9, h10, h11, h12, h13⟩ : ∃ u : TS, mG D A s H locs (wd K ad u) ∧ Ok u ∧ KT z u ∧ tI u p0 5 = (tI z p0 5) ∧ tI u p0 6 = (tI z p0 6) ∧ tI u p0 3 = 42 ∧ tI u p0 4 = 0 := ⟨_, G, ok_i oo2 7 (at_ro (i := 0) ap0 (by decide) : ro p0 = 7) (iv_mono (iv_lit (lo := 0) (hi := 0) 0 (by decide) (by decide)) (by decide) (by decide)) (by decide), KF.tr kk3 (KF_i 7 (at_ro (i := 0) ap0 (by decide) : ro p0 = 7) (by decide)), (sI_k h4 (by decide)), (sI_k h5 (by decide)), (sI_k h6 (by decide)), sI_self⟩
  have LOOP11 : ∀ n : Nat, ∀ (zz14 : TS) (H : Heap) (locs : List Loc) (ls : Array Slot), mG D A s H locs (wd K ad zz14) → Ok zz14 → KT z zz14 → nb (tI zz14 p0 6).toInt (tI zz14 p0 5).toInt (tI zz14 p0 4).toInt → 400 < (tI zz14 p0 6).toInt + (n : Int) → lv_has ls 1 [(0, .ref (ad p0))] → W p l e R s m args below meth c H locs 0 0 Q (F0 m 11 ls []) := by
    intro n
    induction n with
    | zero =>
      intro zz14 H locs ls G oo15 kk16 h18 m17 hl
      exact absurd m17 (by have := (iv_mono (oo15.i (j := p0) 7 6 (at_ro (i := 0) ap0 (by decide) : ro p0 = 7)) (show (0 : Int) ≤ ilo 7 6 by decide) (show ihi 7 6 ≤ 400 by decide)).2; omega)
    | succ n ih11 =>
      intro zz14 H locs ls G oo15 kk16 h18 m17 hl
      refine lv_aload_n E.1 E.2.1 dX7_readNumber_11 rfl (lv_at hl 0 rfl) ?_
      refine t_get E G 7 6 (at_ro (i := 0) ap0 (by decide) : ro p0 = 7) (C := RX7) (T := TX7) (N := 7) rfl (by decide) (by decide) (by decide) mw_fl_7_31 (fvl_i rfl) dX7_readNumber_12 ?_
      refine lv_topi (fun v19 e20 => ?_)
      have b21 : iv 0 400 v19 := by rw [e20]; exact oo15.i 7 6 (at_ro (i := 0) ap0 (by decide) : ro p0 = 7)
      refine lv_aload_n E.1 E.2.1 dX7_readNumber_15 rfl (lv_at hl 0 rfl) ?_
      refine t_get E G 7 1 (at_ro (i := 0) ap0 (by decide) : ro p0 = 7) (C := RX7) (T := TX7) (N := 7) rfl (by decide) (by decide) (by decide) mw_fl_7_15 (fvl_i rfl) dX7_readNumber_16 ?_
      refine lv_topi (fun v22 e23 => ?_)
      have b24 : iv 0 400 v22 := by rw [e23]; exact oo15.i 7 1 (at_ro (i := 0) ap0 (by decide) : ro p0 = 7)
      refine lv_icmp_ge (tgt := 83) E.1 E.2.1 dX7_readNumber_19 (by decide) (fun c25 => ?_) (fun c25 => ?_)
      · skip
        refine lv_aload_n E.1 E.2.1 dX7_readNumber_83 rfl (lv_at hl 0 rfl) ?_
        refine t_get E G 7 6 (at_ro (i := 0) ap0 (by decide) : ro p0 = 7) (C := RX7) (T := TX7) (N := 7) rfl (by decide) (by decide) (by decide) mw_fl_7_31 (fvl_i rfl) dX7_readNumber_84 ?_
        refine m_ci v19 e20.symm ?_
        refine lv_aload_n E.1 E.2.1 dX7_readNumber_87 rfl (lv_at hl 0 rfl) ?_
        refine t_get E G 7 5 (at_ro (i := 0) ap0 (by decide) : ro p0 = 7) (C := RX7) (T := TX7) (N := 7) rfl (by decide) (by decide) (by decide) mw_fl_7_28 (fvl_i rfl) dX7_readNumber_88 ?_
        refine lv_topi (fun v26 e27 => ?_)
        have b28 : iv 0 400 v26 := by rw [e27]; exact oo15.i 7 5 (at_ro (i := 0) ap0 (by decide) : ro p0 = 7)
        refine lv_isub E.1 E.2.1 dX7_readNumber_91 ?_
        refine lv_topi (fun v29 e30 => ?_)
        have b31 : iv (-400) 400 v29 := by rw [e30]; exact iv_sub b21 b28 (by decide) (by decide) (by decide) (by decide)
        refine lv_iconst (v := 5) E.1 E.2.1 dX7_readNumber_92 (by decide) ?_
        refine lv_icmp_le (tgt := 101) E.1 E.2.1 dX7_readNumber_93 (by decide) (fun c32 => ?_) (fun c32 => ?_)
        · skip
          have b33 : iv (-400) 5 v29 := le_l c32 b31 (iv_lit (lo := 5) (hi := 5) 5 (by decide) (by decide)) (by decide)
          exact RET G ⟨oo15, kk16⟩ dX7_readNumber_101
        · skip
          have b34 : iv 6 400 v29 := lt_r (Int32.not_le.mp c32) (iv_lit (lo := 5) (hi := 5) 5 (by decide) (by decide)) b31 (by decide)
          refine lv_aload_n E.1 E.2.1 dX7_readNumber_96 rfl (lv_at hl 0 rfl) ?_
          refine lv_iconst (v := (-1)) E.1 E.2.1 dX7_readNumber_97 (by decide) ?_
          refine t_puti E G 7 4 (at_ro (i := 0) ap0 (by decide) : ro p0 = 7) (C := RX7) (T := TX7) (N := 7) rfl (by decide) (by decide) (by decide) rfl rfl mw_fl_7_25 rfl dX7_readNumber_98 (fun H locs G => ?_)
          obtain ⟨zz35, G, oo36, kk37, h38, h39, h40, h41⟩ : ∃ u : TS, mG D A s H locs (wd K ad u) ∧ Ok u ∧ KT z u ∧ tI u p0 5 = v26 ∧ tI u p0 6 = v19 ∧ tI u p0 1 = v22 ∧ tI u p0 4 = (-1) := ⟨_, G, ok_i oo15 7 (at_ro (i := 0) ap0 (by decide) : ro p0 = 7) (iv_mono (iv_lit (lo := (-1)) (hi := (-1)) (-1) (by decide) (by decide)) (by decide) (by decide)) (by decide), KF.tr kk16 (KF_i 7 (at_ro (i := 0) ap0 (by decide) : ro p0 = 7) (by decide)), (sI_k e27.symm (by decide)), (sI_k e20.symm (by decide)), (sI_k e23.symm (by decide)), sI_self⟩
          exact RET G ⟨oo36, kk37⟩ dX7_readNumber_101
      · skip
        have b42 : iv 0 399 v19 := lt_l (Int32.not_le.mp c25) b21 b24 (by decide)
        have b43 : iv 1 400 v22 := lt_r (Int32.not_le.mp c25) b21 b24 (by decide)
        refine lv_aload_n E.1 E.2.1 dX7_readNumber_22 rfl (lv_at hl 0 rfl) ?_
        refine lv_aload_n E.1 E.2.1 dX7_readNumber_23 rfl (lv_at hl 0 rfl) ?_
        refine t_get E G 7 6 (at_ro (i := 0) ap0 (by decide) : ro p0 = 7) (C := RX7) (T := TX7) (N := 7) rfl (by decide) (by decide) (by decide) mw_fl_7_31 (fvl_i rfl) dX7_readNumber_24 ?_
        refine m_ci v19 e20.symm ?_
        refine t_vi E G hl (tp_digitAt l D K ad zz14 oo15 p0 ap0 v19 (iv_mono b42 (by decide) (by decide))) 7 (at_ro (i := 0) ap0 (by decide) : ro p0 = 7) (by decide) rfl rfl 1 rfl mw_code_X7_digitAt mw_ini_7 mw_ml_7_34 mw_inst_X7_digitAt mw_sel_X7_digitAt hd_X7_digitAt ⟨Nat.le_trans (by decide) hfr, Nat.le_trans (by decide) hlo⟩ rfl rfl rfl (Nat.le_of_ble_eq_true rfl) dX7_readNumber_27 (fun r45 zz44 H locs hp46 G => ?_)
        obtain ⟨hz49, b47, h48⟩ := hp46
        rw [hz49] at G
        refine lv_if_eq (tgt := 83) E.1 E.2.1 dX7_readNumber_30 (by decide) (fun c50 => ?_) (fun c50 => ?_)
        · skip
          have b51 : iv 0 0 r45 := iv_eq c50 (iv_lit (lo := 0) (hi := 0) 0 (by decide) (by decide))
          refine lv_aload_n E.1 E.2.1 dX7_readNumber_83 rfl (lv_at hl 0 rfl) ?_
          refine t_get E G 7 6 (at_ro (i := 0) ap0 (by decide) : ro p0 = 7) (C := RX7) (T := TX7) (N := 7) rfl (by decide) (by decide) (by decide) mw_fl_7_31 (fvl_i rfl) dX7_readNumber_84 ?_
          refine m_ci v19 e20.symm ?_
          refine lv_aload_n E.1 E.2.1 dX7_readNumber_87 rfl (lv_at hl 0 rfl) ?_
          refine t_get E G 7 5 (at_ro (i := 0) ap0 (by decide) : ro p0 = 7) (C := RX7) (T := TX7) (N := 7) rfl (by decide) (by decide) (by decide) mw_fl_7_28 (fvl_i rfl) dX7_readNumber_88 ?_
          refine lv_topi (fun v52 e53 => ?_)
          have b54 : iv 0 400 v52 := by rw [e53]; exact oo15.i 7 5 (at_ro (i := 0) ap0 (by decide) : ro p0 = 7)
          refine lv_isub E.1 E.2.1 dX7_readNumber_91 ?_
          refine lv_topi (fun v55 e56 => ?_)
          have b57 : iv (-400) 399 v55 := by rw [e56]; exact iv_sub b42 b54 (by decide) (by decide) (by decide) (by decide)
          refine lv_iconst (v := 5) E.1 E.2.1 dX7_readNumber_92 (by decide) ?_
          refine lv_icmp_le (tgt := 101) E.1 E.2.1 dX7_readNumber_93 (by decide) (fun c58 => ?_) (fun c58 => ?_)
          · skip
            have b59 : iv (-400) 5 v55 := le_l c58 b57 (iv_lit (lo := 5) (hi := 5) 5 (by decide) (by decide)) (by decide)
            exact RET G ⟨oo15, kk16⟩ dX7_readNumber_101
          · skip
            have b60 : iv 6 399 v55 := lt_r (Int32.not_le.mp c58) (iv_lit (lo := 5) (hi := 5) 5 (by decide) (by decide)) b57 (by decide)
            refine lv_aload_n E.1 E.2.1 dX7_readNumber_96 rfl (lv_at hl 0 rfl) ?_
            refine lv_iconst (v := (-1)) E.1 E.2.1 dX7_readNumber_97 (by decide) ?_
            refine t_puti E G 7 4 (at_ro (i := 0) ap0 (by decide) : ro p0 = 7) (C := RX7) (T := TX7) (N := 7) rfl (by decide) (by decide) (by decide) rfl rfl mw_fl_7_25 rfl dX7_readNumber_98 (fun H locs G => ?_)
            obtain ⟨zz61, G, oo62, kk63, h64, h65, h66, h67⟩ : ∃ u : TS, mG D A s H locs (wd K ad u) ∧ Ok u ∧ KT z u ∧ tI u p0 5 = v52 ∧ tI u p0 6 = v19 ∧ tI u p0 1 = v22 ∧ tI u p0 4 = (-1) := ⟨_, G, ok_i oo15 7 (at_ro (i := 0) ap0 (by decide) : ro p0 = 7) (iv_mono (iv_lit (lo := (-1)) (hi := (-1)) (-1) (by decide) (by decide)) (by decide) (by decide)) (by decide), KF.tr kk16 (KF_i 7 (at_ro (i := 0) ap0 (by decide) : ro p0 = 7) (by decide)), (sI_k e53.symm (by decide)), (sI_k e20.symm (by decide)), (sI_k e23.symm (by decide)), sI_self⟩
            exact RET G ⟨oo62, kk63⟩ dX7_readNumber_101
        · skip
          have b68 : iv 1 1 r45 := ne_lo c50 b47 (by decide) (by decide)
          refine lv_aload_n E.1 E.2.1 dX7_readNumber_33 rfl (lv_at hl 0 rfl) ?_
          refine t_get E G 7 6 (at_ro (i := 0) ap0 (by decide) : ro p0 = 7) (C := RX7) (T := TX7) (N := 7) rfl (by decide) (by decide) (by decide) mw_fl_7_31 (fvl_i rfl) dX7_readNumber_34 ?_
          refine m_ci v19 e20.symm ?_
          refine lv_aload_n E.1 E.2.1 dX7_readNumber_37 rfl (lv_at hl 0 rfl) ?_
          refine t_get E G 7 5 (at_ro (i := 0) ap0 (by decide) : ro p0 = 7) (C := RX7) (T := TX7) (N := 7) rfl (by decide) (by decide) (by decide) mw_fl_7_28 (fvl_i rfl) dX7_readNumber_38 ?_
          refine lv_topi (fun v69 e70 => ?_)
          have b71 : iv 0 400 v69 := by rw [e70]; exact oo15.i 7 5 (at_ro (i := 0) ap0 (by decide) : ro p0 = 7)
          refine lv_isub E.1 E.2.1 dX7_readNumber_41 ?_
          refine lv_topi (fun v72 e73 => ?_)
          have b74 : iv (-400) 399 v72 := by rw [e73]; exact iv_sub b42 b71 (by decide) (by decide) (by decide) (by decide)
          refine lv_iconst (v := 5) E.1 E.2.1 dX7_readNumber_42 (by decide) ?_
          refine lv_icmp_ge (tgt := 70) E.1 E.2.1 dX7_readNumber_43 (by decide) (fun c75 => ?_) (fun c75 => ?_)
          · skip
            have b76 : iv 5 399 v72 := le_r c75 (iv_lit (lo := 5) (hi := 5) 5 (by decide) (by decide)) b74 (by decide)
            refine lv_aload_n E.1 E.2.1 dX7_readNumber_70 rfl (lv_at hl 0 rfl) ?_
            refine lv_dup E.1 E.2.1 dX7_readNumber_71 rfl ?_
            refine t_get E G 7 6 (at_ro (i := 0) ap0 (by decide) : ro p0 = 7) (C := RX7) (T := TX7) (N := 7) rfl (by decide) (by decide) (by decide) mw_fl_7_31 (fvl_i rfl) dX7_readNumber_72 ?_
            refine m_ci v19 e20.symm ?_
            refine lv_iconst (v := 1) E.1 E.2.1 dX7_readNumber_75 (by decide) ?_
            refine lv_iadd E.1 E.2.1 dX7_readNumber_76 ?_
            refine lv_topi (fun v77 e78 => ?_)
            have b79 : iv 1 400 v77 := by rw [e78]; exact iv_add b42 (iv_lit (lo := 1) (hi := 1) 1 (by decide) (by decide)) (by decide) (by decide) (by decide) (by decide)
            refine t_puti E G 7 6 (at_ro (i := 0) ap0 (by decide) : ro p0 = 7) (C := RX7) (T := TX7) (N := 7) rfl (by decide) (by decide) (by decide) rfl rfl mw_fl_7_31 rfl dX7_readNumber_77 (fun H locs G => ?_)
            obtain ⟨zz80, G, oo81, kk82, h83, h84, h85, h86⟩ : ∃ u : TS, mG D A s H locs (wd K ad u) ∧ Ok u ∧ KT z u ∧ tI u p0 4 = (tI zz14 p0 4) ∧ tI u p0 5 = v69 ∧ tI u p0 1 = v22 ∧ tI u p0 6 = v77 := ⟨_, G, ok_i oo15 7 (at_ro (i := 0) ap0 (by decide) : ro p0 = 7) (iv_mono b79 (by decide) (by decide)) (by decide), KF.tr kk16 (KF_i 7 (at_ro (i := 0) ap0 (by decide) : ro p0 = 7) (by decide)), (sI_k rfl (by decide)), (sI_k e70.symm (by decide)), (sI_k e23.symm (by decide)), sI_self⟩
            refine lv_goto (tgt := 11) E.1 E.2.1 dX7_readNumber_80 (by decide) ?_
            exact ih11 zz80 H locs ls G oo81 kk82 (by rw [h86, e78, ti_addc 1 (by decide) b42 (by decide) (by decide), h84, h83]; exact (nb_st (by have h := h18; rw [← e20, ← e70] at h; exact h) (nb_sd (iv_mono b42 (by decide) (by decide)) b71 (by rw [← e73]; exact c75)))) (by rw [h86, e78, ti_addc 1 (by decide) b42 (by decide) (by decide), e20]; have := m17; omega) (lv_sub hl [0] rfl)
          · skip
            have b87 : iv (-400) 4 v72 := lt_l (Int32.not_le.mp c75) b74 (iv_lit (lo := 5) (hi := 5) 5 (by decide) (by decide)) (by decide)
            refine lv_aload_n E.1 E.2.1 dX7_readNumber_46 rfl (lv_at hl 0 rfl) ?_
            refine lv_aload_n E.1 E.2.1 dX7_readNumber_47 rfl (lv_at hl 0 rfl) ?_
            refine t_get E G 7 4 (at_ro (i := 0) ap0 (by decide) : ro p0 = 7) (C := RX7) (T := TX7) (N := 7) rfl (by decide) (by decide) (by decide) mw_fl_7_25 (fvl_i rfl) dX7_readNumber_48 ?_
            refine lv_topi (fun v88 e89 => ?_)
            have b90 : iv (-1) 99999 v88 := by rw [e89]; exact oo15.i 7 4 (at_ro (i := 0) ap0 (by decide) : ro p0 = 7)
            refine lv_bipush (v := 10) E.1 E.2.1 dX7_readNumber_51 (by decide) ?_
            refine lv_imul E.1 E.2.1 dX7_readNumber_53 ?_
            refine lv_topi (fun v91 e92 => ?_)
            have b93 : iv (-10) 999990 v91 := by rw [e92]; exact iv_mulc b90 10 (by decide) (by decide) (by decide) (by decide) (by decide) (by decide)
            refine lv_aload_n E.1 E.2.1 dX7_readNumber_54 rfl (lv_at hl 0 rfl) ?_
            refine t_get E G 7 0 (at_ro (i := 0) ap0 (by decide) : ro p0 = 7) (C := RX7) (T := TX7) (N := 7) rfl (by decide) (by decide) (by decide) mw_fl_7_9 (v := .ref (ad (p0 + 1))) (fvl_o (n := 1) rfl) dX7_readNumber_55 ?_
            refine lv_aload_n E.1 E.2.1 dX7_readNumber_58 rfl (lv_at hl 0 rfl) ?_
            refine t_get E G 7 6 (at_ro (i := 0) ap0 (by decide) : ro p0 = 7) (C := RX7) (T := TX7) (N := 7) rfl (by decide) (by decide) (by decide) mw_fl_7_31 (fvl_i rfl) dX7_readNumber_59 ?_
            refine m_ci v19 e20.symm ?_
            refine t_bald E G 20 (at_ro (i := 1) ap0 (by decide) : ro (p0 + 1) = 20) (by decide) (by decide) rfl (n := 400) rfl (iv_vp b42 (by decide) (by decide)) dX7_readNumber_62 ?_
            refine lv_topi (fun v94 e95 => ?_)
            have b96 : iv (-128) 127 v94 := by rw [e95]; exact oo15.ac 20 (at_ro (i := 1) ap0 (by decide) : ro (p0 + 1) = 20) (by decide) _
            refine lv_iadd E.1 E.2.1 dX7_readNumber_63 ?_
            refine lv_topi (fun v97 e98 => ?_)
            have b99 : iv (-138) 1000117 v97 := by rw [e98]; exact iv_add b93 b96 (by decide) (by decide) (by decide) (by decide)
            refine lv_bipush (v := 48) E.1 E.2.1 dX7_readNumber_64 (by decide) ?_
            refine lv_isub E.1 E.2.1 dX7_readNumber_66 ?_
            refine lv_topi (fun v100 e101 => ?_)
            have b102 : iv (-186) 1000069 v100 := by rw [e101]; exact iv_sub b99 (iv_lit (lo := 48) (hi := 48) 48 (by decide) (by decide)) (by decide) (by decide) (by decide) (by decide)
            refine t_puti E G 7 4 (at_ro (i := 0) ap0 (by decide) : ro p0 = 7) (C := RX7) (T := TX7) (N := 7) rfl (by decide) (by decide) (by decide) rfl rfl mw_fl_7_25 rfl dX7_readNumber_67 (fun H locs G => ?_)
            have h103 : nb (v19.toInt + 1) v69.toInt v100.toInt := by rw [e101, e98, e92]; exact nb_up (by have h := h18; rw [← e20, ← e70, ← e89] at h; exact h) (iv_mono b42 (by decide) (by decide)) b71 (by rw [← e73]; exact c75) (by have h := h48 c50; rw [e95.symm] at h; exact h)
            have b104 : iv 0 99999 v100 := nb_iv h103
            obtain ⟨zz105, G, oo106, kk107, h108, h109, h110, h111⟩ : ∃ u : TS, mG D A s H locs (wd K ad u) ∧ Ok u ∧ KT z u ∧ tI u p0 5 = v69 ∧ tI u p0 6 = v19 ∧ tI u p0 1 = v22 ∧ tI u p0 4 = v100 := ⟨_, G, ok_i oo15 7 (at_ro (i := 0) ap0 (by decide) : ro p0 = 7) (iv_mono b104 (by decide) (by decide)) (by decide), KF.tr kk16 (KF_i 7 (at_ro (i := 0) ap0 (by decide) : ro p0 = 7) (by decide)), (sI_k e70.symm (by decide)), (sI_k e20.symm (by decide)), (sI_k e23.symm (by decide)), sI_self⟩
            refine lv_aload_n E.1 E.2.1 dX7_readNumber_70 rfl (lv_at hl 0 rfl) ?_
            refine lv_dup E.1 E.2.1 dX7_readNumber_71 rfl ?_
            refine t_get E G 7 6 (at_ro (i := 0) ap0 (by decide) : ro p0 = 7) (C := RX7) (T := TX7) (N := 7) rfl (by decide) (by decide) (by decide) mw_fl_7_31 (fvl_i rfl) dX7_readNumber_72 ?_
            refine m_ci v19 h109 ?_
            refine lv_iconst (v := 1) E.1 E.2.1 dX7_readNumber_75 (by decide) ?_
            refine lv_iadd E.1 E.2.1 dX7_readNumber_76 ?_
            refine lv_topi (fun v112 e113 => ?_)
            have b114 : iv 1 400 v112 := by rw [e113]; exact iv_add b42 (iv_lit (lo := 1) (hi := 1) 1 (by decide) (by decide)) (by decide) (by decide) (by decide) (by decide)
            refine t_puti E G 7 6 (at_ro (i := 0) ap0 (by decide) : ro p0 = 7) (C := RX7) (T := TX7) (N := 7) rfl (by decide) (by decide) (by decide) rfl rfl mw_fl_7_31 rfl dX7_readNumber_77 (fun H locs G => ?_)
            obtain ⟨zz115, G, oo116, kk117, h118, h119, h120, h121⟩ : ∃ u : TS, mG D A s H locs (wd K ad u) ∧ Ok u ∧ KT z u ∧ tI u p0 5 = v69 ∧ tI u p0 1 = v22 ∧ tI u p0 4 = v100 ∧ tI u p0 6 = v112 := ⟨_, G, ok_i oo106 7 (at_ro (i := 0) ap0 (by decide) : ro p0 = 7) (iv_mono b114 (by decide) (by decide)) (by decide), KF.tr kk107 (KF_i 7 (at_ro (i := 0) ap0 (by decide) : ro p0 = 7) (by decide)), (sI_k h108 (by decide)), (sI_k h110 (by decide)), (sI_k h111 (by decide)), sI_self⟩
            refine lv_goto (tgt := 11) E.1 E.2.1 dX7_readNumber_80 (by decide) ?_
            exact ih11 zz115 H locs ls G oo116 kk117 (by rw [h121, e113, ti_addc 1 (by decide) b42 (by decide) (by decide), h118, h120]; exact h103) (by rw [h121, e113, ti_addc 1 (by decide) b42 (by decide) (by decide), e20]; have := m17; omega) (lv_sub hl [0] rfl)
  exact LOOP11 401 zz7 H locs ls G oo8 kk9 (by rw [h11, h10, h13, hs]; exact nb_0 _) (by have := (iv_mono (oo8.i (j := p0) 7 6 (at_ro (i := 0) ap0 (by decide) : ro p0 = 7)) (show (0 : Int) ≤ ilo 7 6 by decide) (show ihi 7 6 ≤ 400 by decide)).1; omega) (lv_sub hl [0] rfl)
