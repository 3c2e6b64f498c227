theorem mw_code_X5_takeClause : (Cond.code yX5_takeClause cX5_takeClause 1 none : Cond) ∈ cw := cw_of (List.mem_append_right _ (List.mem_append_right _ (List.mem_append_right _ (List.mem_append_left _ (List.mem_of_getElem? (i := 198) rfl))))) (by decide +kernel)
theorem mw_code_X5_takeFact : (Cond.code yX5_takeFact cX5_takeFact 1 none : Cond) ∈ cw := cw_of (List.mem_append_right _ (List.mem_append_right _ (List.mem_append_right _ (List.mem_append_left _ (List.mem_of_getElem? (i := 203) rfl))))) (by decide +kernel)
theorem mw_code_X5_takeMore : (Cond.code yX5_takeMore cX5_takeMore 3 none : Cond) ∈ cw := cw_of (List.mem_append_right _ (List.mem_append_right _ (List.mem_append_right _ (List.mem_append_left _ (List.mem_of_getElem? (i := 223) rfl))))) (by decide +kernel)
theorem mw_inst_X5_takeClause : (Cond.instanceMethod yX5_takeClause : Cond) ∈ cw := cw_of (List.mem_append_right _ (List.mem_append_right _ (List.mem_append_right _ (List.mem_append_left _ (List.mem_of_getElem? (i := 197) (by decide +kernel)))))) (by decide +kernel)
theorem mw_inst_X5_takeFact : (Cond.instanceMethod yX5_takeFact : Cond) ∈ cw := cw_of (List.mem_append_right _ (List.mem_append_right _ (List.mem_append_right _ (List.mem_append_left _ (List.mem_of_getElem? (i := 202) (by decide +kernel)))))) (by decide +kernel)
theorem mw_inst_X5_takeMore : (Cond.instanceMethod yX5_takeMore : Cond) ∈ cw := cw_of (List.mem_append_right _ (List.mem_append_right _ (List.mem_append_right _ (List.mem_append_left _ (List.mem_of_getElem? (i := 222) (by decide +kernel)))))) (by decide +kernel)
theorem mw_ml_5_63 : (Cond.methodLink RX5 63 yX5_takeClause : Cond) ∈ cw := cw_of (List.mem_append_right _ (List.mem_append_right _ (List.mem_append_right _ (List.mem_append_left _ (List.mem_of_getElem? (i := 195) (by decide +kernel)))))) (by decide +kernel)
theorem mw_ml_5_66 : (Cond.methodLink RX5 66 yX5_takeFact : Cond) ∈ cw := cw_of (List.mem_append_right _ (List.mem_append_right _ (List.mem_append_right _ (List.mem_append_left _ (List.mem_of_getElem? (i := 200) (by decide +kernel)))))) (by decide +kernel)
theorem mw_ml_5_72 : (Cond.methodLink RX5 72 yX5_takeMore : Cond) ∈ cw := cw_of (List.mem_append_right _ (List.mem_append_right _ (List.mem_append_right _ (List.mem_append_left _ (List.mem_of_getElem? (i := 220) (by decide +kernel)))))) (by decide +kernel)
theorem mw_sel_X5_takeClause : (Cond.selects RX5 yX5_takeClause yX5_takeClause : Cond) ∈ cw := cw_of (List.mem_append_left _ (List.mem_of_getElem? (i := 13) (by decide +kernel))) (by decide +kernel)
theorem mw_sel_X5_takeFact : (Cond.selects RX5 yX5_takeFact yX5_takeFact : Cond) ∈ cw := cw_of (List.mem_append_left _ (List.mem_of_getElem? (i := 14) (by decide +kernel))) (by decide +kernel)
theorem mw_sel_X5_takeMore : (Cond.selects RX5 yX5_takeMore yX5_takeMore : Cond) ∈ cw := cw_of (List.mem_append_left _ (List.mem_of_getElem? (i := 18) (by decide +kernel))) (by decide +kernel)
theorem dX5_takeToken_0 : decode cX5_takeToken 0 = .ok (.aload_n 0, 1) := by decide +kernel
theorem dX5_takeToken_1 : decode cX5_takeToken 1 = .ok (.getfield 35, 3) := by decide +kernel
theorem dX5_takeToken_4 : decode cX5_takeToken 4 = .ok (.tableswitch 49 0 2 #[28, 35, 42], 28) := by decide +kernel
theorem dX5_takeToken_32 : decode cX5_takeToken 32 = .ok (.aload_n 0, 1) := by decide +kernel
theorem dX5_takeToken_33 : decode cX5_takeToken 33 = .ok (.invokevirtual 63, 3) := by decide +kernel
theorem dX5_takeToken_36 : decode cX5_takeToken 36 = .ok (.goto 21, 3) := by decide +kernel
theorem dX5_takeToken_39 : decode cX5_takeToken 39 = .ok (.aload_n 0, 1) := by decide +kernel
theorem dX5_takeToken_40 : decode cX5_takeToken 40 = .ok (.invokevirtual 66, 3) := by decide +kernel
theorem dX5_takeToken_43 : decode cX5_takeToken 43 = .ok (.goto 14, 3) := by decide +kernel
theorem dX5_takeToken_46 : decode cX5_takeToken 46 = .ok (.aload_n 0, 1) := by decide +kernel
theorem dX5_takeToken_47 : decode cX5_takeToken 47 = .ok (.invokevirtual 69, 3) := by decide +kernel
theorem dX5_takeToken_50 : decode cX5_takeToken 50 = .ok (.goto 7, 3) := by decide +kernel
theorem dX5_takeToken_53 : decode cX5_takeToken 53 = .ok (.aload_n 0, 1) := by decide +kernel
theorem dX5_takeToken_54 : decode cX5_takeToken 54 = .ok (.invokevirtual 72, 3) := by decide +kernel
theorem dX5_takeToken_57 : decode cX5_takeToken 57 = .ok (.return_, 1) := by decide +kernel
theorem hd_X5_takeClause : yX5_takeClause.cls ≠ "java/lang/invoke/MethodHandle" ∧ yX5_takeClause.cls ≠ "java/lang/invoke/VarHandle" ∧ (parseMethodDescriptor yX5_takeClause.desc).map (fun d => d.parameters.length) = some 0 := ⟨by decide +kernel, by decide +kernel, by decide +kernel⟩
theorem hd_X5_takeFact : yX5_takeFact.cls ≠ "java/lang/invoke/MethodHandle" ∧ yX5_takeFact.cls ≠ "java/lang/invoke/VarHandle" ∧ (parseMethodDescriptor yX5_takeFact.desc).map (fun d => d.parameters.length) = some 0 := ⟨by decide +kernel, by decide +kernel, by decide +kernel⟩
theorem hd_X5_takeMore : yX5_takeMore.cls ≠ "java/lang/invoke/MethodHandle" ∧ yX5_takeMore.cls ≠ "java/lang/invoke/VarHandle" ∧ (parseMethodDescriptor yX5_takeMore.desc).map (fun d => d.parameters.length) = some 0 := ⟨by decide +kernel, by decide +kernel, by decide +kernel⟩
theorem sw_0_2 (x : Int32) (h1 : ¬ x.toInt < 0) (h2 : ¬ 2 < x.toInt) : x = 0 ∨ x = 1 ∨ x = 2 := by
  have h := (Int32.ofInt_toInt x).symm
  have h3 : ∃ n : Int, n = x.toInt := ⟨_, rfl⟩
  obtain ⟨n, hn⟩ := h3
  rw [← hn] at h h1 h2
  have h4 : n = 0 ∨ n = 1 ∨ n = 2 := by omega
  subst h
  clear hn
  rcases h4 with rfl | rfl | rfl <;> simp
set_option maxHeartbeats 4000000 in
set_option maxRecDepth 100000 in
theorem rr_takeToken (l : Launch) (D : va_G) (K : Nat → ClassId) (ad : Nat → Nat) (z : TS) (o : Ok z) : cV l yX5_takeToken cX5_takeToken 1 ({ frames := 4, cells := 0, slots := 0, locals := 86 }) D K ad z [.ref (ad 5)] (fun u => Ok u ∧ KC z u ∧ tI u 0 5 = tI z 0 5) := by
  refine t_enterV (by decide) (Nat.le_of_ble_eq_true rfl) rfl rfl ?_
  intro p e s m args below meth c A R Q H locs ls E hfr hlo RET G hl
  have E : mE p s m meth c cX5_takeToken args 1 RX5 D K A := E
  have hl : lv_has ls 1 [(0, .ref (ad 5))] := hl
  refine lv_aload_n E.1 E.2.1 dX5_takeToken_0 rfl (lv_at hl 0 rfl) ?_
  refine t_get E G 5 6 (rfl : ro 5 = 5) (C := RX5) (T := TX5) (N := 9) rfl (by decide) (by decide) (by decide) mw_fl_5_35 (fvl_i rfl) dX5_takeToken_1 ?_
  refine lv_topi (fun v1 e2 => ?_)
  rcases Decidable.em (v1.toInt < 0 ∨ 2 < v1.toInt) with c3 | c3
  · refine lv_tableOut (tgt := 53) E.1 E.2.1 dX5_takeToken_4 c3 (by decide) ?_
    refine lv_aload_n E.1 E.2.1 dX5_takeToken_53 rfl (lv_at hl 0 rfl) ?_
    refine t_vv E G hl (rr_takeMore l D K ad z o) 5 (rfl : ro 5 = 5) (by decide) rfl rfl 0 rfl mw_code_X5_takeMore mw_ini_5 mw_ml_5_72 mw_inst_X5_takeMore mw_sel_X5_takeMore hd_X5_takeMore ⟨Nat.le_trans (by decide) hfr, Nat.le_trans (by decide) hlo⟩ rfl rfl rfl (Nat.le_of_ble_eq_true rfl) dX5_takeToken_54 (fun zz4 H locs hp6 G => ?_)
    obtain ⟨oo7, kk8, h9⟩ := hp6
    have kk10 : KC z zz4 := KC.tr KC.rf kk8
    exact RET G ⟨oo7, kk10, (h9.trans rfl)⟩ dX5_takeToken_57
  · rcases sw_0_2 v1 (fun h => c3 (Or.inl h)) (fun h => c3 (Or.inr h)) with ee0 | ee1 | ee2
    · refine lv_tableIn (off := 28) (tgt := 32) E.1 E.2.1 dX5_takeToken_4 (by rw [ee0]; decide) (by rw [ee0]; decide) (by rw [ee0]; decide) (by decide) ?_
      refine lv_aload_n E.1 E.2.1 dX5_takeToken_32 rfl (lv_at hl 0 rfl) ?_
      refine t_vv E G hl (rr_takeClause l D K ad z o) 5 (rfl : ro 5 = 5) (by decide) rfl rfl 0 rfl mw_code_X5_takeClause mw_ini_5 mw_ml_5_63 mw_inst_X5_takeClause mw_sel_X5_takeClause hd_X5_takeClause ⟨Nat.le_trans (by decide) hfr, Nat.le_trans (by decide) hlo⟩ rfl rfl rfl (Nat.le_of_ble_eq_true rfl) dX5_takeToken_33 (fun zz12 H locs hp14 G => ?_)
      obtain ⟨oo15, kk16, h17⟩ := hp14
      have kk18 : KC z zz12 := KC.tr KC.rf kk16
      refine lv_goto (tgt := 57) E.1 E.2.1 dX5_takeToken_36 (by decide) ?_
      exact RET G ⟨oo15, kk18, (h17.trans rfl)⟩ dX5_takeToken_57
    · refine lv_tableIn (off := 35) (tgt := 39) E.1 E.2.1 dX5_takeToken_4 (by rw [ee1]; decide) (by rw [ee1]; decide) (by rw [ee1]; decide) (by decide) ?_
      refine lv_aload_n E.1 E.2.1 dX5_takeToken_39 rfl (lv_at hl 0 rfl) ?_
      refine t_vv E G hl (rr_takeFact l D K ad z o) 5 (rfl : ro 5 = 5) (by decide) rfl rfl 0 rfl mw_code_X5_takeFact mw_ini_5 mw_ml_5_66 mw_inst_X5_takeFact mw_sel_X5_takeFact hd_X5_takeFact ⟨Nat.le_trans (by decide) hfr, Nat.le_trans (by decide) hlo⟩ rfl rfl rfl (Nat.le_of_ble_eq_true rfl) dX5_takeToken_40 (fun zz19 H locs hp21 G => ?_)
      obtain ⟨oo22, kk23, h24⟩ := hp21
      have kk25 : KC z zz19 := KC.tr KC.rf kk23
      refine lv_goto (tgt := 57) E.1 E.2.1 dX5_takeToken_43 (by decide) ?_
      exact RET G ⟨oo22, kk25, (h24.trans rfl)⟩ dX5_takeToken_57
    · refine lv_tableIn (off := 42) (tgt := 46) E.1 E.2.1 dX5_takeToken_4 (by rw [ee2]; decide) (by rw [ee2]; decide) (by rw [ee2]; decide) (by decide) ?_
      refine lv_aload_n E.1 E.2.1 dX5_takeToken_46 rfl (lv_at hl 0 rfl) ?_
      refine t_vv E G hl (rr_takeValue l D K ad z o) 5 (rfl : ro 5 = 5) (by decide) rfl rfl 0 rfl mw_code_X5_takeValue mw_ini_5 mw_ml_5_69 mw_inst_X5_takeValue mw_sel_X5_takeValue hd_X5_takeValue ⟨Nat.le_trans (by decide) hfr, Nat.le_trans (by decide) hlo⟩ rfl rfl rfl (Nat.le_of_ble_eq_true rfl) dX5_takeToken_47 (fun zz26 H locs hp28 G => ?_)
      obtain ⟨oo29, kk30, h31⟩ := hp28
      have kk32 : KC z zz26 := KC.tr KC.rf kk30
      refine lv_goto (tgt := 57) E.1 E.2.1 dX5_takeToken_50 (by decide) ?_
      exact RET G ⟨oo29, kk32, (h31.trans rfl)⟩ dX5_takeToken_57
