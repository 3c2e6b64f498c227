theorem mw_code_X8_clear : (Cond.code yX8_clear cX8_clear 2 none : Cond) ∈ cw := cw_of (List.mem_append_right _ (List.mem_append_right _ (List.mem_append_left _ (List.mem_of_getElem? (i := 203) rfl)))) (by decide +kernel)
theorem mw_code_X8_measure : (Cond.code yX8_measure cX8_measure 3 none : Cond) ∈ cw := cw_of (List.mem_append_right _ (List.mem_append_right _ (List.mem_append_right _ (List.mem_append_left _ (List.mem_of_getElem? (i := 155) rfl))))) (by decide +kernel)
theorem mw_code_X9_readClause : (Cond.code yX9_readClause cX9_readClause 5 none : Cond) ∈ cw := cw_of (List.mem_append_right _ (List.mem_append_right _ (List.mem_append_left _ (List.mem_of_getElem? (i := 211) rfl)))) (by decide +kernel)
theorem mw_inst_X8_clear : (Cond.instanceMethod yX8_clear : Cond) ∈ cw := cw_of (List.mem_append_right _ (List.mem_append_right _ (List.mem_append_left _ (List.mem_of_getElem? (i := 201) (by decide +kernel))))) (by decide +kernel)
theorem mw_inst_X8_measure : (Cond.instanceMethod yX8_measure : Cond) ∈ cw := cw_of (List.mem_append_right _ (List.mem_append_right _ (List.mem_append_right _ (List.mem_append_left _ (List.mem_of_getElem? (i := 153) (by decide +kernel)))))) (by decide +kernel)
theorem mw_inst_X9_readClause : (Cond.instanceMethod yX9_readClause : Cond) ∈ cw := cw_of (List.mem_append_right _ (List.mem_append_right _ (List.mem_append_left _ (List.mem_of_getElem? (i := 210) (by decide +kernel))))) (by decide +kernel)
theorem mw_ml_9_29 : (Cond.methodLink RX9 29 yX8_clear : Cond) ∈ cw := cw_of (List.mem_append_right _ (List.mem_append_right _ (List.mem_append_left _ (List.mem_of_getElem? (i := 200) (by decide +kernel))))) (by decide +kernel)
theorem mw_ml_9_32 : (Cond.methodLink RX9 32 yX7_rewind : Cond) ∈ cw := cw_of (List.mem_append_right _ (List.mem_append_right _ (List.mem_append_left _ (List.mem_of_getElem? (i := 204) (by decide +kernel))))) (by decide +kernel)
theorem mw_ml_9_35 : (Cond.methodLink RX9 35 yX9_readClause : Cond) ∈ cw := cw_of (List.mem_append_right _ (List.mem_append_right _ (List.mem_append_left _ (List.mem_of_getElem? (i := 208) (by decide +kernel))))) (by decide +kernel)
theorem mw_ml_9_46 : (Cond.methodLink RX9 46 yX8_measure : Cond) ∈ cw := cw_of (List.mem_append_right _ (List.mem_append_right _ (List.mem_append_right _ (List.mem_append_left _ (List.mem_of_getElem? (i := 152) (by decide +kernel)))))) (by decide +kernel)
theorem mw_sel_X8_clear : (Cond.selects RX8 yX8_clear yX8_clear : Cond) ∈ cw := cw_of (List.mem_append_right _ (List.mem_append_right _ (List.mem_append_left _ (List.mem_of_getElem? (i := 202) (by decide +kernel))))) (by decide +kernel)
theorem mw_sel_X8_measure : (Cond.selects RX8 yX8_measure yX8_measure : Cond) ∈ cw := cw_of (List.mem_append_right _ (List.mem_append_right _ (List.mem_append_right _ (List.mem_append_left _ (List.mem_of_getElem? (i := 154) (by decide +kernel)))))) (by decide +kernel)
theorem mw_sel_X9_readClause : (Cond.selects RX9 yX9_readClause yX9_readClause : Cond) ∈ cw := cw_of (List.mem_append_left _ (List.mem_of_getElem? (i := 0) (by decide +kernel))) (by decide +kernel)
theorem dX9_read_0 : decode cX9_read 0 = .ok (.aload_n 0, 1) := by decide +kernel
theorem dX9_read_1 : decode cX9_read 1 = .ok (.aload_n 1, 1) := by decide +kernel
theorem dX9_read_2 : decode cX9_read 2 = .ok (.putfield 12, 3) := by decide +kernel
theorem dX9_read_5 : decode cX9_read 5 = .ok (.aload_n 0, 1) := by decide +kernel
theorem dX9_read_6 : decode cX9_read 6 = .ok (.aload_n 2, 1) := by decide +kernel
theorem dX9_read_7 : decode cX9_read 7 = .ok (.putfield 21, 3) := by decide +kernel
theorem dX9_read_10 : decode cX9_read 10 = .ok (.aload_n 0, 1) := by decide +kernel
theorem dX9_read_11 : decode cX9_read 11 = .ok (.getfield 21, 3) := by decide +kernel
theorem dX9_read_14 : decode cX9_read 14 = .ok (.invokevirtual 29, 3) := by decide +kernel
theorem dX9_read_17 : decode cX9_read 17 = .ok (.aload_n 0, 1) := by decide +kernel
theorem dX9_read_18 : decode cX9_read 18 = .ok (.getfield 12, 3) := by decide +kernel
theorem dX9_read_21 : decode cX9_read 21 = .ok (.invokevirtual 32, 3) := by decide +kernel
theorem dX9_read_24 : decode cX9_read 24 = .ok (.iconst 1, 1) := by decide +kernel
theorem dX9_read_25 : decode cX9_read 25 = .ok (.istore_n 3, 1) := by decide +kernel
theorem dX9_read_26 : decode cX9_read 26 = .ok (.iconst 0, 1) := by decide +kernel
theorem dX9_read_27 : decode cX9_read 27 = .ok (.istore 4, 2) := by decide +kernel
theorem dX9_read_29 : decode cX9_read 29 = .ok (.iload 4, 2) := by decide +kernel
theorem dX9_read_31 : decode cX9_read 31 = .ok (.bipush 40, 2) := by decide +kernel
theorem dX9_read_33 : decode cX9_read 33 = .ok (.if_icmp .gt 47, 3) := by decide +kernel
theorem dX9_read_36 : decode cX9_read 36 = .ok (.iload_n 3, 1) := by decide +kernel
theorem dX9_read_37 : decode cX9_read 37 = .ok (.ifCond .eq 43, 3) := by decide +kernel
theorem dX9_read_40 : decode cX9_read 40 = .ok (.aload_n 0, 1) := by decide +kernel
theorem dX9_read_41 : decode cX9_read 41 = .ok (.iload 4, 2) := by decide +kernel
theorem dX9_read_43 : decode cX9_read 43 = .ok (.invokevirtual 35, 3) := by decide +kernel
theorem dX9_read_46 : decode cX9_read 46 = .ok (.aload_n 0, 1) := by decide +kernel
theorem dX9_read_47 : decode cX9_read 47 = .ok (.getfield 12, 3) := by decide +kernel
theorem dX9_read_50 : decode cX9_read 50 = .ok (.getfield 39, 3) := by decide +kernel
theorem dX9_read_53 : decode cX9_read 53 = .ok (.ifCond .ne 19, 3) := by decide +kernel
theorem dX9_read_56 : decode cX9_read 56 = .ok (.aload_n 0, 1) := by decide +kernel
theorem dX9_read_57 : decode cX9_read 57 = .ok (.getfield 12, 3) := by decide +kernel
theorem dX9_read_60 : decode cX9_read 60 = .ok (.getfield 43, 3) := by decide +kernel
theorem dX9_read_63 : decode cX9_read 63 = .ok (.bipush 20, 2) := by decide +kernel
theorem dX9_read_65 : decode cX9_read 65 = .ok (.if_icmp .ne 7, 3) := by decide +kernel
theorem dX9_read_68 : decode cX9_read 68 = .ok (.iconst 1, 1) := by decide +kernel
theorem dX9_read_69 : decode cX9_read 69 = .ok (.goto 4, 3) := by decide +kernel
theorem dX9_read_72 : decode cX9_read 72 = .ok (.iconst 0, 1) := by decide +kernel
theorem dX9_read_73 : decode cX9_read 73 = .ok (.istore_n 3, 1) := by decide +kernel
theorem dX9_read_74 : decode cX9_read 74 = .ok (.iinc 4 1, 3) := by decide +kernel
theorem dX9_read_77 : decode cX9_read 77 = .ok (.goto (-48), 3) := by decide +kernel
theorem dX9_read_80 : decode cX9_read 80 = .ok (.aload_n 0, 1) := by decide +kernel
theorem dX9_read_81 : decode cX9_read 81 = .ok (.getfield 12, 3) := by decide +kernel
theorem dX9_read_84 : decode cX9_read 84 = .ok (.getfield 39, 3) := by decide +kernel
theorem dX9_read_87 : decode cX9_read 87 = .ok (.ifCond .ne 10, 3) := by decide +kernel
theorem dX9_read_90 : decode cX9_read 90 = .ok (.aload_n 0, 1) := by decide +kernel
theorem dX9_read_91 : decode cX9_read 91 = .ok (.getfield 21, 3) := by decide +kernel
theorem dX9_read_94 : decode cX9_read 94 = .ok (.invokevirtual 46, 3) := by decide +kernel
theorem dX9_read_97 : decode cX9_read 97 = .ok (.return_, 1) := by decide +kernel
theorem hd_X8_clear : yX8_clear.cls ≠ "java/lang/invoke/MethodHandle" ∧ yX8_clear.cls ≠ "java/lang/invoke/VarHandle" ∧ (parseMethodDescriptor yX8_clear.desc).map (fun d => d.parameters.length) = some 0 := ⟨by decide +kernel, by decide +kernel, by decide +kernel⟩
theorem hd_X8_measure : yX8_measure.cls ≠ "java/lang/invoke/MethodHandle" ∧ yX8_measure.cls ≠ "java/lang/invoke/VarHandle" ∧ (parseMethodDescriptor yX8_measure.desc).map (fun d => d.parameters.length) = some 0 := ⟨by decide +kernel, by decide +kernel, by decide +kernel⟩
theorem hd_X9_readClause : yX9_readClause.cls ≠ "java/lang/invoke/MethodHandle" ∧ yX9_readClause.cls ≠ "java/lang/invoke/VarHandle" ∧ (parseMethodDescriptor yX9_readClause.desc).map (fun d => d.parameters.length) = some 1 := ⟨by decide +kernel, by decide +kernel, by decide +kernel⟩
set_option maxHeartbeats 4000000 in
set_option maxRecDepth 100000 in
theorem tr_read (l : Launch) (D : va_G) (K : Nat → ClassId) (ad : Nat → Nat) (z : TS) (o : Ok z) (p0 : Nat) (ap0 : at_ 7 p0 = true) (p1 : Nat) (ap1 : at_ 8 p1 = true) : cV l yX9_read cX9_read 5 ({ frames := 9, cells := 0, slots := 0, locals := 197 }) D K ad z [.ref (ad 3), .ref (ad p0), .ref (ad p1)] (fun u => Ok u ∧ KC z u) := by
  refine t_enterV (by decide) (Nat.le_of_ble_eq_true rfl) rfl rfl ?_
  intro p e s m args below meth c A R Q H locs ls E hfr hlo RET G hl
  have E : mE p s m meth c cX9_read args 5 RX9 D K A := E
  have hl : lv_has ls 5 [(0, .ref (ad 3)), (1, .ref (ad p0)), (2, .ref (ad p1))] := hl
  refine lv_aload_n E.1 E.2.1 dX9_read_0 rfl (lv_at hl 0 rfl) ?_
  refine lv_aload_n E.1 E.2.1 dX9_read_1 rfl (lv_at hl 1 rfl) ?_
  refine t_putp E G 9 0 (rfl : ro 3 = 9) (v := p0) (C := RX9) (T := TX9) (N := 3) rfl (by decide) (by decide) (by decide) rfl rfl mw_fl_9_12 rfl dX9_read_2 (fun H locs G => ?_)
  obtain ⟨zz1, G, oo2, kk3, h4⟩ : ∃ u : TS, mG D A s H locs (wd K ad u) ∧ Ok u ∧ KC z u ∧ tP u 3 0 = p0 := ⟨_, G, ok_p o 9 (rfl : ro 3 = 9) ap0, KC.tr KC.rf (KC_p), sP_self⟩
  refine lv_aload_n E.1 E.2.1 dX9_read_5 rfl (lv_at hl 0 rfl) ?_
  refine lv_aload_n E.1 E.2.1 dX9_read_6 rfl (lv_at hl 2 rfl) ?_
  refine t_putp E G 9 1 (rfl : ro 3 = 9) (v := p1) (C := RX9) (T := TX9) (N := 3) rfl (by decide) (by decide) (by decide) rfl rfl mw_fl_9_21 rfl dX9_read_7 (fun H locs G => ?_)
  obtain ⟨zz5, G, oo6, kk7, h8, h9⟩ : ∃ u : TS, mG D A s H locs (wd K ad u) ∧ Ok u ∧ KC z u ∧ tP u 3 0 = p0 ∧ tP u 3 1 = p1 := ⟨_, G, ok_p oo2 9 (rfl : ro 3 = 9) ap1, KC.tr kk3 (KC_p), (sP_k h4 (by decide)), sP_self⟩
  refine lv_aload_n E.1 E.2.1 dX9_read_10 rfl (lv_at hl 0 rfl) ?_
  refine t_get E G 9 1 (rfl : ro 3 = 9) (C := RX9) (T := TX9) (N := 3) rfl (by decide) (by decide) (by decide) mw_fl_9_21 (fvl_d rfl) dX9_read_11 ?_
  rw [h9]
  refine t_vv E G hl (t_clear l D K ad zz5 oo6 p1 ap1) 8 (at_ro (i := 0) ap1 (by decide) : ro p1 = 8) (by decide) rfl rfl 0 rfl mw_code_X8_clear mw_ini_8 mw_ml_9_29 mw_inst_X8_clear mw_sel_X8_clear hd_X8_clear ⟨Nat.le_trans (by decide) hfr, Nat.le_trans (by decide) hlo⟩ rfl rfl rfl (Nat.le_of_ble_eq_true rfl) dX9_read_14 (fun zz11 H locs hp13 G => ?_)
  obtain ⟨oo14, kk15⟩ := hp13
  have kk16 : KC z zz11 := KC.tr kk7 kk15
  refine lv_aload_n E.1 E.2.1 dX9_read_17 rfl (lv_at hl 0 rfl) ?_
  refine t_get E G 9 0 (rfl : ro 3 = 9) (C := RX9) (T := TX9) (N := 3) rfl (by decide) (by decide) (by decide) mw_fl_9_12 (fvl_d rfl) dX9_read_18 ?_
  obtain ⟨qq17, eqq17⟩ : ∃ q : Nat, q = tP zz11 3 0 := ⟨_, rfl⟩
  have aqq17 : at_ 7 qq17 = true := by rw [eqq17]; exact oo14.p 9 0 (rfl : ro 3 = 9) (by decide)
  rw [← eqq17]
  refine t_vv E G hl (tp_rewind l D K ad zz11 oo14 qq17 aqq17) 7 (at_ro (i := 0) aqq17 (by decide) : ro qq17 = 7) (by decide) rfl rfl 0 rfl mw_code_X7_rewind mw_ini_7 mw_ml_9_32 mw_inst_X7_rewind mw_sel_X7_rewind hd_X7_rewind ⟨Nat.le_trans (by decide) hfr, Nat.le_trans (by decide) hlo⟩ rfl rfl rfl (Nat.le_of_ble_eq_true rfl) dX9_read_21 (fun zz18 H locs hp20 G => ?_)
  obtain ⟨oo21, kk22⟩ := hp20
  have kk23 : KC z zz18 := KC.tr kk16 (KT.c kk22)
  have h24 : tP zz18 3 0 = qq17 := KF.p kk22 eqq17.symm
  refine lv_iconst (v := 1) E.1 E.2.1 dX9_read_24 (by decide) ?_
  refine lv_istore_n (lv' := [(3, .int 1), (0, .ref (ad 3)), (1, .ref (ad p0)), (2, .ref (ad p1))]) E.1 E.2.1 dX9_read_25 rfl hl (by decide) rfl (fun ls hl => ?_)
  refine lv_iconst (v := 0) E.1 E.2.1 dX9_read_26 (by decide) ?_
  refine lv_istore (lv' := [(4, .int 0), (3, .int 1), (0, .ref (ad 3)), (1, .ref (ad p0)), (2, .ref (ad p1))]) E.1 E.2.1 dX9_read_27 hl (by decide) rfl (fun ls hl => ?_)
  have LOOP29 : ∀ n : Nat, ∀ (zz27 : TS) (y25 : Int32) (y26 : Int32) (H : Heap) (locs : List Loc) (ls : Array Slot), mG D A s H locs (wd K ad zz27) → Ok zz27 → KC z zz27 → iv 0 41 y25 → iv 0 1 y26 → 41 < y25.toInt + (n : Int) → lv_has ls 5 [(4, .int y25), (3, .int y26), (0, .ref (ad 3)), (1, .ref (ad p0)), (2, .ref (ad p1))] → W p l e R s m args below meth c H locs 0 0 Q (F0 m 29 ls []) := by
    intro n
    induction n with
    | zero =>
      intro zz27 y25 y26 H locs ls G oo28 kk29 b31 b32 m30 hl
      exact absurd m30 (by have := b31.1; have := b31.2; omega)
    | succ n ih29 =>
      intro zz27 y25 y26 H locs ls G oo28 kk29 b31 b32 m30 hl
      refine lv_iload E.1 E.2.1 dX9_read_29 (lv_at hl 0 rfl) ?_
      refine lv_bipush (v := 40) E.1 E.2.1 dX9_read_31 (by decide) ?_
      refine lv_icmp_gt (tgt := 80) E.1 E.2.1 dX9_read_33 (by decide) (fun c33 => ?_) (fun c33 => ?_)
      · skip
        have b34 : iv 41 41 y25 := lt_r c33 (iv_lit (lo := 40) (hi := 40) 40 (by decide) (by decide)) b31 (by decide)
        refine lv_aload_n E.1 E.2.1 dX9_read_80 rfl (lv_at hl 2 rfl) ?_
        refine t_get E G 9 0 (rfl : ro 3 = 9) (C := RX9) (T := TX9) (N := 3) rfl (by decide) (by decide) (by decide) mw_fl_9_12 (fvl_d rfl) dX9_read_81 ?_
        obtain ⟨qq35, eqq35⟩ : ∃ q : Nat, q = tP zz27 3 0 := ⟨_, rfl⟩
        have aqq35 : at_ 7 qq35 = true := by rw [eqq35]; exact oo28.p 9 0 (rfl : ro 3 = 9) (by decide)
        rw [← eqq35]
        refine t_get E G 7 2 (at_ro (i := 0) aqq35 (by decide) : ro qq35 = 7) (C := RX7) (T := TX7) (N := 7) rfl (by decide) (by decide) (by decide) mw_fl_9_39 (fvl_i rfl) dX9_read_84 ?_
        refine lv_topi (fun v36 e37 => ?_)
        refine lv_if_ne (tgt := 97) E.1 E.2.1 dX9_read_87 (by decide) (fun c38 => ?_) (fun c38 => ?_)
        · skip
          exact RET G ⟨oo28, kk29⟩ dX9_read_97
        · skip
          have b39 : iv 0 0 v36 := iv_eq c38 (iv_lit (lo := 0) (hi := 0) 0 (by decide) (by decide))
          refine lv_aload_n E.1 E.2.1 dX9_read_90 rfl (lv_at hl 2 rfl) ?_
          refine t_get E G 9 1 (rfl : ro 3 = 9) (C := RX9) (T := TX9) (N := 3) rfl (by decide) (by decide) (by decide) mw_fl_9_21 (fvl_d rfl) dX9_read_91 ?_
          obtain ⟨qq40, eqq40⟩ : ∃ q : Nat, q = tP zz27 3 1 := ⟨_, rfl⟩
          have aqq40 : at_ 8 qq40 = true := by rw [eqq40]; exact oo28.p 9 1 (rfl : ro 3 = 9) (by decide)
          rw [← eqq40]
          refine t_vv E G hl (t_measure l D K ad zz27 oo28 qq40 aqq40) 8 (at_ro (i := 0) aqq40 (by decide) : ro qq40 = 8) (by decide) rfl rfl 0 rfl mw_code_X8_measure mw_ini_8 mw_ml_9_46 mw_inst_X8_measure mw_sel_X8_measure hd_X8_measure ⟨Nat.le_trans (by decide) hfr, Nat.le_trans (by decide) hlo⟩ rfl rfl rfl (Nat.le_of_ble_eq_true rfl) dX9_read_94 (fun zz41 H locs hp43 G => ?_)
          obtain ⟨oo44, kk45⟩ := hp43
          have kk46 : KC z zz41 := KC.tr kk29 kk45
          exact RET G ⟨oo44, kk46⟩ dX9_read_97
      · skip
        have b47 : iv 0 40 y25 := le_l (Int32.not_lt.mp c33) b31 (iv_lit (lo := 40) (hi := 40) 40 (by decide) (by decide)) (by decide)
        refine lv_iload_n E.1 E.2.1 dX9_read_36 rfl (lv_at hl 1 rfl) ?_
        refine lv_if_eq (tgt := 80) E.1 E.2.1 dX9_read_37 (by decide) (fun c48 => ?_) (fun c48 => ?_)
        · skip
          have b49 : iv 0 0 y26 := iv_eq c48 (iv_lit (lo := 0) (hi := 0) 0 (by decide) (by decide))
          refine lv_aload_n E.1 E.2.1 dX9_read_80 rfl (lv_at hl 2 rfl) ?_
          refine t_get E G 9 0 (rfl : ro 3 = 9) (C := RX9) (T := TX9) (N := 3) rfl (by decide) (by decide) (by decide) mw_fl_9_12 (fvl_d rfl) dX9_read_81 ?_
          obtain ⟨qq50, eqq50⟩ : ∃ q : Nat, q = tP zz27 3 0 := ⟨_, rfl⟩
          have aqq50 : at_ 7 qq50 = true := by rw [eqq50]; exact oo28.p 9 0 (rfl : ro 3 = 9) (by decide)
          rw [← eqq50]
          refine t_get E G 7 2 (at_ro (i := 0) aqq50 (by decide) : ro qq50 = 7) (C := RX7) (T := TX7) (N := 7) rfl (by decide) (by decide) (by decide) mw_fl_9_39 (fvl_i rfl) dX9_read_84 ?_
          refine lv_topi (fun v51 e52 => ?_)
          refine lv_if_ne (tgt := 97) E.1 E.2.1 dX9_read_87 (by decide) (fun c53 => ?_) (fun c53 => ?_)
          · skip
            exact RET G ⟨oo28, kk29⟩ dX9_read_97
          · skip
            have b54 : iv 0 0 v51 := iv_eq c53 (iv_lit (lo := 0) (hi := 0) 0 (by decide) (by decide))
            refine lv_aload_n E.1 E.2.1 dX9_read_90 rfl (lv_at hl 2 rfl) ?_
            refine t_get E G 9 1 (rfl : ro 3 = 9) (C := RX9) (T := TX9) (N := 3) rfl (by decide) (by decide) (by decide) mw_fl_9_21 (fvl_d rfl) dX9_read_91 ?_
            obtain ⟨qq55, eqq55⟩ : ∃ q : Nat, q = tP zz27 3 1 := ⟨_, rfl⟩
            have aqq55 : at_ 8 qq55 = true := by rw [eqq55]; exact oo28.p 9 1 (rfl : ro 3 = 9) (by decide)
            rw [← eqq55]
            refine t_vv E G hl (t_measure l D K ad zz27 oo28 qq55 aqq55) 8 (at_ro (i := 0) aqq55 (by decide) : ro qq55 = 8) (by decide) rfl rfl 0 rfl mw_code_X8_measure mw_ini_8 mw_ml_9_46 mw_inst_X8_measure mw_sel_X8_measure hd_X8_measure ⟨Nat.le_trans (by decide) hfr, Nat.le_trans (by decide) hlo⟩ rfl rfl rfl (Nat.le_of_ble_eq_true rfl) dX9_read_94 (fun zz56 H locs hp58 G => ?_)
            obtain ⟨oo59, kk60⟩ := hp58
            have kk61 : KC z zz56 := KC.tr kk29 kk60
            exact RET G ⟨oo59, kk61⟩ dX9_read_97
        · skip
          have b62 : iv 1 1 y26 := ne_lo c48 b32 (by decide) (by decide)
          refine lv_aload_n E.1 E.2.1 dX9_read_40 rfl (lv_at hl 2 rfl) ?_
          refine lv_iload E.1 E.2.1 dX9_read_41 (lv_at hl 0 rfl) ?_
          refine t_vv E G hl (tr_clause l D K ad zz27 oo28 y25 (iv_mono b47 (by decide) (by decide))) 9 (rfl : ro 3 = 9) (by decide) rfl rfl 1 rfl mw_code_X9_readClause mw_ini_9 mw_ml_9_35 mw_inst_X9_readClause mw_sel_X9_readClause hd_X9_readClause ⟨Nat.le_trans (by decide) hfr, Nat.le_trans (by decide) hlo⟩ rfl rfl rfl (Nat.le_of_ble_eq_true rfl) dX9_read_43 (fun zz63 H locs hp65 G => ?_)
          obtain ⟨oo66, kk67⟩ := hp65
          have kk68 : KC z zz63 := KC.tr kk29 kk67
          refine lv_aload_n E.1 E.2.1 dX9_read_46 rfl (lv_at hl 2 rfl) ?_
          refine t_get E G 9 0 (rfl : ro 3 = 9) (C := RX9) (T := TX9) (N := 3) rfl (by decide) (by decide) (by decide) mw_fl_9_12 (fvl_d rfl) dX9_read_47 ?_
          obtain ⟨qq69, eqq69⟩ : ∃ q : Nat, q = tP zz63 3 0 := ⟨_, rfl⟩
          have aqq69 : at_ 7 qq69 = true := by rw [eqq69]; exact oo66.p 9 0 (rfl : ro 3 = 9) (by decide)
          rw [← eqq69]
          refine t_get E G 7 2 (at_ro (i := 0) aqq69 (by decide) : ro qq69 = 7) (C := RX7) (T := TX7) (N := 7) rfl (by decide) (by decide) (by decide) mw_fl_9_39 (fvl_i rfl) dX9_read_50 ?_
          refine lv_topi (fun v70 e71 => ?_)
          refine lv_if_ne (tgt := 72) E.1 E.2.1 dX9_read_53 (by decide) (fun c72 => ?_) (fun c72 => ?_)
          · skip
            refine lv_iconst (v := 0) E.1 E.2.1 dX9_read_72 (by decide) ?_
            refine lv_istore_n (lv' := [(3, .int 0), (4, .int y25), (0, .ref (ad 3)), (1, .ref (ad p0)), (2, .ref (ad p1))]) E.1 E.2.1 dX9_read_73 rfl hl (by decide) rfl (fun ls hl => ?_)
            obtain ⟨v73, e74⟩ : ∃ w : Int32, w = y25 + (1 : Int32) := ⟨_, rfl⟩
            refine lv_iinc (v := v73) (lv' := [(4, .int v73), (3, .int 0), (0, .ref (ad 3)), (1, .ref (ad p0)), (2, .ref (ad p1))]) E.1 E.2.1 dX9_read_74 hl (k := 1) rfl (by rw [e74]; rfl) (by decide) rfl (fun ls hl => ?_)
            have b75 : iv 1 41 v73 := by rw [e74]; exact iv_add b47 (iv_lit (lo := 1) (hi := 1) 1 (by decide) (by decide)) (by decide) (by decide) (by decide) (by decide)
            have t76 : v73.toInt = y25.toInt + 1 := by rw [e74]; exact ti_addc 1 (by decide) b47 (by decide) (by decide)
            refine lv_goto (tgt := 29) E.1 E.2.1 dX9_read_77 (by decide) ?_
            exact ih29 zz63 v73 0 H locs ls G oo66 kk68 (iv_mono b75 (by decide) (by decide)) (iv_mono (iv_lit (lo := 0) (hi := 0) 0 (by decide) (by decide)) (by decide) (by decide)) (by have := t76; have := m30; omega) (lv_sub hl [0, 1, 2, 3, 4] rfl)
          · skip
            have b77 : iv 0 0 v70 := iv_eq c72 (iv_lit (lo := 0) (hi := 0) 0 (by decide) (by decide))
            refine lv_aload_n E.1 E.2.1 dX9_read_56 rfl (lv_at hl 2 rfl) ?_
            refine t_get E G 9 0 (rfl : ro 3 = 9) (C := RX9) (T := TX9) (N := 3) rfl (by decide) (by decide) (by decide) mw_fl_9_12 (fvl_d rfl) dX9_read_57 ?_
            rw [eqq69.symm]
            refine t_get E G 7 3 (at_ro (i := 0) aqq69 (by decide) : ro qq69 = 7) (C := RX7) (T := TX7) (N := 7) rfl (by decide) (by decide) (by decide) mw_fl_9_43 (fvl_i rfl) dX9_read_60 ?_
            refine lv_topi (fun v79 e80 => ?_)
            have b81 : iv 0 42 v79 := by rw [e80]; exact oo66.i 7 3 (at_ro (i := 0) aqq69 (by decide) : ro qq69 = 7)
            refine lv_bipush (v := 20) E.1 E.2.1 dX9_read_63 (by decide) ?_
            refine lv_icmp_ne (tgt := 72) E.1 E.2.1 dX9_read_65 (by decide) (fun c82 => ?_) (fun c82 => ?_)
            · skip
              refine lv_iconst (v := 0) E.1 E.2.1 dX9_read_72 (by decide) ?_
              refine lv_istore_n (lv' := [(3, .int 0), (4, .int y25), (0, .ref (ad 3)), (1, .ref (ad p0)), (2, .ref (ad p1))]) E.1 E.2.1 dX9_read_73 rfl hl (by decide) rfl (fun ls hl => ?_)
              obtain ⟨v83, e84⟩ : ∃ w : Int32, w = y25 + (1 : Int32) := ⟨_, rfl⟩
              refine lv_iinc (v := v83) (lv' := [(4, .int v83), (3, .int 0), (0, .ref (ad 3)), (1, .ref (ad p0)), (2, .ref (ad p1))]) E.1 E.2.1 dX9_read_74 hl (k := 1) rfl (by rw [e84]; rfl) (by decide) rfl (fun ls hl => ?_)
              have b85 : iv 1 41 v83 := by rw [e84]; exact iv_add b47 (iv_lit (lo := 1) (hi := 1) 1 (by decide) (by decide)) (by decide) (by decide) (by decide) (by decide)
              have t86 : v83.toInt = y25.toInt + 1 := by rw [e84]; exact ti_addc 1 (by decide) b47 (by decide) (by decide)
              refine lv_goto (tgt := 29) E.1 E.2.1 dX9_read_77 (by decide) ?_
              exact ih29 zz63 v83 0 H locs ls G oo66 kk68 (iv_mono b85 (by decide) (by decide)) (iv_mono (iv_lit (lo := 0) (hi := 0) 0 (by decide) (by decide)) (by decide) (by decide)) (by have := t86; have := m30; omega) (lv_sub hl [0, 1, 2, 3, 4] rfl)
            · skip
              have b87 : iv 20 20 v79 := iv_eq c82 (iv_lit (lo := 20) (hi := 20) 20 (by decide) (by decide))
              refine lv_iconst (v := 1) E.1 E.2.1 dX9_read_68 (by decide) ?_
              refine lv_goto (tgt := 73) E.1 E.2.1 dX9_read_69 (by decide) ?_
              refine lv_istore_n (lv' := [(3, .int 1), (4, .int y25), (0, .ref (ad 3)), (1, .ref (ad p0)), (2, .ref (ad p1))]) E.1 E.2.1 dX9_read_73 rfl hl (by decide) rfl (fun ls hl => ?_)
              obtain ⟨v88, e89⟩ : ∃ w : Int32, w = y25 + (1 : Int32) := ⟨_, rfl⟩
              refine lv_iinc (v := v88) (lv' := [(4, .int v88), (3, .int 1), (0, .ref (ad 3)), (1, .ref (ad p0)), (2, .ref (ad p1))]) E.1 E.2.1 dX9_read_74 hl (k := 1) rfl (by rw [e89]; rfl) (by decide) rfl (fun ls hl => ?_)
              have b90 : iv 1 41 v88 := by rw [e89]; exact iv_add b47 (iv_lit (lo := 1) (hi := 1) 1 (by decide) (by decide)) (by decide) (by decide) (by decide) (by decide)
              have t91 : v88.toInt = y25.toInt + 1 := by rw [e89]; exact ti_addc 1 (by decide) b47 (by decide) (by decide)
              refine lv_goto (tgt := 29) E.1 E.2.1 dX9_read_77 (by decide) ?_
              exact ih29 zz63 v88 1 H locs ls G oo66 kk68 (iv_mono b90 (by decide) (by decide)) (iv_mono (iv_lit (lo := 1) (hi := 1) 1 (by decide) (by decide)) (by decide) (by decide)) (by have := t91; have := m30; omega) (lv_sub hl [0, 1, 2, 3, 4] rfl)
  exact LOOP29 42 zz18 0 1 H locs ls G oo21 kk23 (iv_mono (iv_lit (lo := 0) (hi := 0) 0 (by decide) (by decide)) (by decide) (by decide)) (iv_mono (iv_lit (lo := 1) (hi := 1) 1 (by decide) (by decide)) (by decide) (by decide)) (by have := (iv_lit (lo := 0) (hi := 0) 0 (by decide) (by decide)).1; omega) (lv_sub hl [0, 1, 2, 3, 4] rfl)
