theorem mw_code_X5_read : (Cond.code yX5_read cX5_read 4 none : Cond) ∈ cw := cw_of (List.mem_append_right _ (List.mem_append_right _ (List.mem_append_right _ (List.mem_append_left _ (List.mem_of_getElem? (i := 184) rfl))))) (by decide +kernel)
theorem mw_fl_10_111 : (Cond.fieldLink RX10 111 "LureTown$Tape" "fault" "I" : Cond) ∈ cw := cw_of (List.mem_append_right _ (List.mem_append_left _ (List.mem_of_getElem? (i := 41) (by decide +kernel)))) (by decide +kernel)
theorem mw_fl_10_26 : (Cond.fieldLink RX10 26 "LureTown" "ruleReader" "LLureTown$RuleReader;" : Cond) ∈ cw := cw_of (List.mem_append_right _ (List.mem_append_right _ (List.mem_append_left _ (List.mem_of_getElem? (i := 130) (by decide +kernel))))) (by decide +kernel)
theorem mw_inst_X5_read : (Cond.instanceMethod yX5_read : Cond) ∈ cw := cw_of (List.mem_append_right _ (List.mem_append_right _ (List.mem_append_right _ (List.mem_append_left _ (List.mem_of_getElem? (i := 182) (by decide +kernel)))))) (by decide +kernel)
theorem mw_ml_10_143 : (Cond.methodLink RX10 143 yX5_read : Cond) ∈ cw := cw_of (List.mem_append_right _ (List.mem_append_right _ (List.mem_append_right _ (List.mem_append_left _ (List.mem_of_getElem? (i := 181) (by decide +kernel)))))) (by decide +kernel)
theorem mw_sel_X5_read : (Cond.selects RX5 yX5_read yX5_read : Cond) ∈ cw := cw_of (List.mem_append_right _ (List.mem_append_right _ (List.mem_append_right _ (List.mem_append_left _ (List.mem_of_getElem? (i := 183) (by decide +kernel)))))) (by decide +kernel)
theorem dX10_rule_0 : decode cX10_rule 0 = .ok (.aload_n 0, 1) := by decide +kernel
theorem dX10_rule_1 : decode cX10_rule 1 = .ok (.getfield 43, 3) := by decide +kernel
theorem dX10_rule_4 : decode cX10_rule 4 = .ok (.bipush 6, 2) := by decide +kernel
theorem dX10_rule_6 : decode cX10_rule 6 = .ok (.if_icmp .lt 5, 3) := by decide +kernel
theorem dX10_rule_9 : decode cX10_rule 9 = .ok (.iconst (-1), 1) := by decide +kernel
theorem dX10_rule_10 : decode cX10_rule 10 = .ok (.ireturn, 1) := by decide +kernel
theorem dX10_rule_11 : decode cX10_rule 11 = .ok (.aload_n 0, 1) := by decide +kernel
theorem dX10_rule_12 : decode cX10_rule 12 = .ok (.getfield 26, 3) := by decide +kernel
theorem dX10_rule_15 : decode cX10_rule 15 = .ok (.aload_n 0, 1) := by decide +kernel
theorem dX10_rule_16 : decode cX10_rule 16 = .ok (.getfield 10, 3) := by decide +kernel
theorem dX10_rule_19 : decode cX10_rule 19 = .ok (.aload_n 0, 1) := by decide +kernel
theorem dX10_rule_20 : decode cX10_rule 20 = .ok (.getfield 39, 3) := by decide +kernel
theorem dX10_rule_23 : decode cX10_rule 23 = .ok (.aload_n 0, 1) := by decide +kernel
theorem dX10_rule_24 : decode cX10_rule 24 = .ok (.getfield 43, 3) := by decide +kernel
theorem dX10_rule_27 : decode cX10_rule 27 = .ok (.aaload, 1) := by decide +kernel
theorem dX10_rule_28 : decode cX10_rule 28 = .ok (.invokevirtual 143, 3) := by decide +kernel
theorem dX10_rule_31 : decode cX10_rule 31 = .ok (.aload_n 0, 1) := by decide +kernel
theorem dX10_rule_32 : decode cX10_rule 32 = .ok (.getfield 10, 3) := by decide +kernel
theorem dX10_rule_35 : decode cX10_rule 35 = .ok (.iconst 0, 1) := by decide +kernel
theorem dX10_rule_36 : decode cX10_rule 36 = .ok (.putfield 100, 3) := by decide +kernel
theorem dX10_rule_39 : decode cX10_rule 39 = .ok (.aload_n 0, 1) := by decide +kernel
theorem dX10_rule_40 : decode cX10_rule 40 = .ok (.getfield 10, 3) := by decide +kernel
theorem dX10_rule_43 : decode cX10_rule 43 = .ok (.getfield 111, 3) := by decide +kernel
theorem dX10_rule_46 : decode cX10_rule 46 = .ok (.ifCond .eq 14, 3) := by decide +kernel
theorem dX10_rule_49 : decode cX10_rule 49 = .ok (.bipush (-2), 2) := by decide +kernel
theorem dX10_rule_51 : decode cX10_rule 51 = .ok (.aload_n 0, 1) := by decide +kernel
theorem dX10_rule_52 : decode cX10_rule 52 = .ok (.getfield 10, 3) := by decide +kernel
theorem dX10_rule_55 : decode cX10_rule 55 = .ok (.getfield 111, 3) := by decide +kernel
theorem dX10_rule_58 : decode cX10_rule 58 = .ok (.isub, 1) := by decide +kernel
theorem dX10_rule_59 : decode cX10_rule 59 = .ok (.ireturn, 1) := by decide +kernel
theorem dX10_rule_60 : decode cX10_rule 60 = .ok (.aload_n 0, 1) := by decide +kernel
theorem dX10_rule_61 : decode cX10_rule 61 = .ok (.dup, 1) := by decide +kernel
theorem dX10_rule_62 : decode cX10_rule 62 = .ok (.getfield 43, 3) := by decide +kernel
theorem dX10_rule_65 : decode cX10_rule 65 = .ok (.iconst 1, 1) := by decide +kernel
theorem dX10_rule_66 : decode cX10_rule 66 = .ok (.iadd, 1) := by decide +kernel
theorem dX10_rule_67 : decode cX10_rule 67 = .ok (.putfield 43, 3) := by decide +kernel
theorem dX10_rule_70 : decode cX10_rule 70 = .ok (.aload_n 0, 1) := by decide +kernel
theorem dX10_rule_71 : decode cX10_rule 71 = .ok (.getfield 43, 3) := by decide +kernel
theorem dX10_rule_74 : decode cX10_rule 74 = .ok (.iconst 1, 1) := by decide +kernel
theorem dX10_rule_75 : decode cX10_rule 75 = .ok (.isub, 1) := by decide +kernel
theorem dX10_rule_76 : decode cX10_rule 76 = .ok (.ireturn, 1) := by decide +kernel
theorem hd_X5_read : yX5_read.cls ≠ "java/lang/invoke/MethodHandle" ∧ yX5_read.cls ≠ "java/lang/invoke/VarHandle" ∧ (parseMethodDescriptor yX5_read.desc).map (fun d => d.parameters.length) = some 2 := ⟨by decide +kernel, by decide +kernel, by decide +kernel⟩
set_option maxHeartbeats 4000000 in
set_option maxRecDepth 100000 in
theorem k_rule (l : Launch) (D : va_G) (K : Nat → ClassId) (ad : Nat → Nat) (z : TS) (o : Ok z) : cI l yX10_rule cX10_rule 1 .int ({ frames := 8, cells := 0, slots := 0, locals := 173 }) D K ad z [.ref (ad 0)] (fun r u => Ok u ∧ KC z u) := by
  refine t_enterI (by decide) (Nat.le_of_ble_eq_true rfl) rfl rfl ?_
  intro p e s m args below meth c A R Q H locs ls E hfr hlo RET G hl
  have E : mE p s m meth c cX10_rule args 1 RX10 D K A := E
  have hl : lv_has ls 1 [(0, .ref (ad 0))] := hl
  refine lv_aload_n E.1 E.2.1 dX10_rule_0 rfl (lv_at hl 0 rfl) ?_
  refine t_get E G 10 5 (rfl : ro 0 = 10) (C := RX10) (T := TX10) (N := 17) rfl (by decide) (by decide) (by decide) mw_fl_10_43 (fvl_i rfl) dX10_rule_1 ?_
  refine lv_topi (fun v1 e2 => ?_)
  have b3 : iv 0 6 v1 := by rw [e2]; exact o.i 10 5 (rfl : ro 0 = 10)
  refine lv_bipush (v := 6) E.1 E.2.1 dX10_rule_4 (by decide) ?_
  refine lv_icmp_lt (tgt := 11) E.1 E.2.1 dX10_rule_6 (by decide) (fun c4 => ?_) (fun c4 => ?_)
  · skip
    have b5 : iv 0 5 v1 := lt_l c4 b3 (iv_lit (lo := 6) (hi := 6) 6 (by decide) (by decide)) (by decide)
    refine lv_aload_n E.1 E.2.1 dX10_rule_11 rfl (lv_at hl 0 rfl) ?_
    refine t_get E G 10 2 (rfl : ro 0 = 10) (C := RX10) (T := TX10) (N := 17) rfl (by decide) (by decide) (by decide) mw_fl_10_26 (v := .ref (ad 5)) (fvl_o (n := 5) rfl) dX10_rule_12 ?_
    refine lv_aload_n E.1 E.2.1 dX10_rule_15 rfl (lv_at hl 0 rfl) ?_
    refine t_get E G 10 0 (rfl : ro 0 = 10) (C := RX10) (T := TX10) (N := 17) rfl (by decide) (by decide) (by decide) mw_fl_10_10 (v := .ref (ad 1)) (fvl_o (n := 1) rfl) dX10_rule_16 ?_
    refine lv_aload_n E.1 E.2.1 dX10_rule_19 rfl (lv_at hl 0 rfl) ?_
    refine t_get E G 10 4 (rfl : ro 0 = 10) (C := RX10) (T := TX10) (N := 17) rfl (by decide) (by decide) (by decide) mw_fl_10_39 (v := .ref (ad 20)) (fvl_o (n := 20) rfl) dX10_rule_20 ?_
    refine lv_aload_n E.1 E.2.1 dX10_rule_23 rfl (lv_at hl 0 rfl) ?_
    refine t_get E G 10 5 (rfl : ro 0 = 10) (C := RX10) (T := TX10) (N := 17) rfl (by decide) (by decide) (by decide) mw_fl_10_43 (fvl_i rfl) dX10_rule_24 ?_
    refine m_ci v1 e2.symm ?_
    refine t_aald E G 37 (rfl : ro 20 = 37) (by decide) (by decide) (t0 := 4) rfl (by decide) (n := 6) rfl rfl (iv_vp b5 (by decide) (by decide)) dX10_rule_27 ?_
    obtain ⟨qq6, eqq6⟩ : ∃ q : Nat, q = 20 + 1 + qst 37 * (v1 : Int32).toNatClampNeg := ⟨_, rfl⟩
    have aqq6 : at_ 4 qq6 = true := by rw [eqq6]; exact rules_at _ (clamp_lt b5 (by decide) (by decide))
    rw [← eqq6]
    refine t_vv E G hl (rr_read l D K ad z o 1 (by decide : at_ 7 1 = true) qq6 aqq6) 5 (rfl : ro 5 = 5) (by decide) rfl rfl 2 rfl mw_code_X5_read mw_ini_5 mw_ml_10_143 mw_inst_X5_read mw_sel_X5_read hd_X5_read ⟨Nat.le_trans (by decide) hfr, Nat.le_trans (by decide) hlo⟩ rfl rfl rfl (Nat.le_of_ble_eq_true rfl) dX10_rule_28 (fun zz7 H locs hp9 G => ?_)
    obtain ⟨oo10, kk11, h12⟩ := hp9
    have kk13 : KC z zz7 := KC.tr KC.rf kk11
    refine lv_aload_n E.1 E.2.1 dX10_rule_31 rfl (lv_at hl 0 rfl) ?_
    refine t_get E G 10 0 (rfl : ro 0 = 10) (C := RX10) (T := TX10) (N := 17) rfl (by decide) (by decide) (by decide) mw_fl_10_10 (v := .ref (ad 1)) (fvl_o (n := 1) rfl) dX10_rule_32 ?_
    refine lv_iconst (v := 0) E.1 E.2.1 dX10_rule_35 (by decide) ?_
    refine t_puti E G 7 1 (rfl : ro 1 = 7) (C := RX7) (T := TX7) (N := 7) rfl (by decide) (by decide) (by decide) rfl rfl mw_fl_10_100 rfl dX10_rule_36 (fun H locs G => ?_)
    obtain ⟨zz14, G, oo15, kk16, h17, h18⟩ : ∃ u : TS, mG D A s H locs (wd K ad u) ∧ Ok u ∧ KC z u ∧ tI u 0 5 = v1 ∧ tI u 1 1 = 0 := ⟨_, G, ok_i oo10 7 (rfl : ro 1 = 7) (iv_mono (iv_lit (lo := 0) (hi := 0) 0 (by decide) (by decide)) (by decide) (by decide)) (by decide), KC.tr kk13 (KC_i 7 (rfl : ro 1 = 7) (by decide)), (sI_k (h12.trans e2.symm) (by decide)), sI_self⟩
    refine lv_aload_n E.1 E.2.1 dX10_rule_39 rfl (lv_at hl 0 rfl) ?_
    refine t_get E G 10 0 (rfl : ro 0 = 10) (C := RX10) (T := TX10) (N := 17) rfl (by decide) (by decide) (by decide) mw_fl_10_10 (v := .ref (ad 1)) (fvl_o (n := 1) rfl) dX10_rule_40 ?_
    refine t_get E G 7 2 (rfl : ro 1 = 7) (C := RX7) (T := TX7) (N := 7) rfl (by decide) (by decide) (by decide) mw_fl_10_111 (fvl_i rfl) dX10_rule_43 ?_
    refine lv_topi (fun v19 e20 => ?_)
    refine lv_if_eq (tgt := 60) E.1 E.2.1 dX10_rule_46 (by decide) (fun c21 => ?_) (fun c21 => ?_)
    · skip
      have b22 : iv 0 0 v19 := iv_eq c21 (iv_lit (lo := 0) (hi := 0) 0 (by decide) (by decide))
      refine lv_aload_n E.1 E.2.1 dX10_rule_60 rfl (lv_at hl 0 rfl) ?_
      refine lv_dup E.1 E.2.1 dX10_rule_61 rfl ?_
      refine t_get E G 10 5 (rfl : ro 0 = 10) (C := RX10) (T := TX10) (N := 17) rfl (by decide) (by decide) (by decide) mw_fl_10_43 (fvl_i rfl) dX10_rule_62 ?_
      refine m_ci v1 h17 ?_
      refine lv_iconst (v := 1) E.1 E.2.1 dX10_rule_65 (by decide) ?_
      refine lv_iadd E.1 E.2.1 dX10_rule_66 ?_
      refine lv_topi (fun v23 e24 => ?_)
      have b25 : iv 1 6 v23 := by rw [e24]; exact iv_add b5 (iv_lit (lo := 1) (hi := 1) 1 (by decide) (by decide)) (by decide) (by decide) (by decide) (by decide)
      refine t_puti E G 10 5 (rfl : ro 0 = 10) (C := RX10) (T := TX10) (N := 17) rfl (by decide) (by decide) (by decide) rfl rfl mw_fl_10_43 rfl dX10_rule_67 (fun H locs G => ?_)
      obtain ⟨zz26, G, oo27, kk28, h29, h30, h31⟩ : ∃ u : TS, mG D A s H locs (wd K ad u) ∧ Ok u ∧ KC z u ∧ tI u 1 1 = 0 ∧ tI u 1 2 = v19 ∧ tI u 0 5 = v23 := ⟨_, G, ok_i oo15 10 (rfl : ro 0 = 10) (iv_mono b25 (by decide) (by decide)) (by decide), KC.tr kk16 (KC_i 10 (rfl : ro 0 = 10) (by decide)), (sI_k h18 (by decide)), (sI_k e20.symm (by decide)), sI_self⟩
      refine lv_aload_n E.1 E.2.1 dX10_rule_70 rfl (lv_at hl 0 rfl) ?_
      refine t_get E G 10 5 (rfl : ro 0 = 10) (C := RX10) (T := TX10) (N := 17) rfl (by decide) (by decide) (by decide) mw_fl_10_43 (fvl_i rfl) dX10_rule_71 ?_
      refine m_ci v23 h31 ?_
      refine lv_iconst (v := 1) E.1 E.2.1 dX10_rule_74 (by decide) ?_
      refine lv_isub E.1 E.2.1 dX10_rule_75 ?_
      refine lv_topi (fun v32 e33 => ?_)
      have b34 : iv 0 5 v32 := by rw [e33]; exact iv_sub b25 (iv_lit (lo := 1) (hi := 1) 1 (by decide) (by decide)) (by decide) (by decide) (by decide) (by decide)
      exact RET G ⟨oo27, kk28⟩ rfl dX10_rule_76
    · skip
      refine lv_bipush (v := (-2)) E.1 E.2.1 dX10_rule_49 (by decide) ?_
      refine lv_aload_n E.1 E.2.1 dX10_rule_51 rfl (lv_at hl 0 rfl) ?_
      refine t_get E G 10 0 (rfl : ro 0 = 10) (C := RX10) (T := TX10) (N := 17) rfl (by decide) (by decide) (by decide) mw_fl_10_10 (v := .ref (ad 1)) (fvl_o (n := 1) rfl) dX10_rule_52 ?_
      refine t_get E G 7 2 (rfl : ro 1 = 7) (C := RX7) (T := TX7) (N := 7) rfl (by decide) (by decide) (by decide) mw_fl_10_111 (fvl_i rfl) dX10_rule_55 ?_
      refine m_ci v19 e20.symm ?_
      refine lv_isub E.1 E.2.1 dX10_rule_58 ?_
      refine lv_topi (fun v35 e36 => ?_)
      exact RET G ⟨oo15, kk16⟩ rfl dX10_rule_59
  · skip
    have b37 : iv 6 6 v1 := le_r (Int32.not_lt.mp c4) (iv_lit (lo := 6) (hi := 6) 6 (by decide) (by decide)) b3 (by decide)
    refine lv_iconst (v := (-1)) E.1 E.2.1 dX10_rule_9 (by decide) ?_
    exact RET G ⟨o, KC.rf⟩ rfl dX10_rule_10
