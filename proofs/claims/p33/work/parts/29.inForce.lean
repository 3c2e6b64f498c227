theorem mw_code_X10_ruleOf : (Cond.code yX10_ruleOf cX10_ruleOf 2 (some (.object "LureTown$Rule")) : Cond) ∈ cw := cw_of (List.mem_append_right _ (List.mem_append_right _ (List.mem_append_right _ (List.mem_append_right _ (List.mem_append_left _ (List.mem_of_getElem? (i := 76) rfl)))))) (by decide +kernel)
theorem mw_inst_X10_ruleOf : (Cond.instanceMethod yX10_ruleOf : Cond) ∈ cw := cw_of (List.mem_append_right _ (List.mem_append_right _ (List.mem_append_right _ (List.mem_append_right _ (List.mem_append_left _ (List.mem_of_getElem? (i := 75) (by decide +kernel))))))) (by decide +kernel)
theorem mw_ml_10_326 : (Cond.methodLink RX10 326 yX10_ruleOf : Cond) ∈ cw := cw_of (List.mem_append_right _ (List.mem_append_right _ (List.mem_append_right _ (List.mem_append_right _ (List.mem_append_left _ (List.mem_of_getElem? (i := 73) (by decide +kernel))))))) (by decide +kernel)
theorem mw_sel_X10_ruleOf : (Cond.selects RX10 yX10_ruleOf yX10_ruleOf : Cond) ∈ cw := cw_of (List.mem_append_left _ (List.mem_of_getElem? (i := 29) (by decide +kernel))) (by decide +kernel)
theorem dX10_inForce_0 : decode cX10_inForce 0 = .ok (.aload_n 0, 1) := by decide +kernel
theorem dX10_inForce_1 : decode cX10_inForce 1 = .ok (.aload_n 0, 1) := by decide +kernel
theorem dX10_inForce_2 : decode cX10_inForce 2 = .ok (.getfield 55, 3) := by decide +kernel
theorem dX10_inForce_5 : decode cX10_inForce 5 = .ok (.getfield 146, 3) := by decide +kernel
theorem dX10_inForce_8 : decode cX10_inForce 8 = .ok (.invokevirtual 326, 3) := by decide +kernel
theorem dX10_inForce_11 : decode cX10_inForce 11 = .ok (.areturn, 1) := by decide +kernel
theorem hd_X10_ruleOf : yX10_ruleOf.cls ≠ "java/lang/invoke/MethodHandle" ∧ yX10_ruleOf.cls ≠ "java/lang/invoke/VarHandle" ∧ (parseMethodDescriptor yX10_ruleOf.desc).map (fun d => d.parameters.length) = some 1 := ⟨by decide +kernel, by decide +kernel, by decide +kernel⟩
set_option maxHeartbeats 4000000 in
set_option maxRecDepth 100000 in
theorem k_inForce (l : Launch) (D : va_G) (K : Nat → ClassId) (ad : Nat → Nat) (z : TS) (o : Ok z) : cR l yX10_inForce cX10_inForce 1 (.object "LureTown$Rule") ({ frames := 1, cells := 0, slots := 0, locals := 21 }) D K ad z [.ref (ad 0)] (fun q u => u = z ∧ (at_ 4 q = true)) := by
  refine t_enterR (by decide) (Nat.le_of_ble_eq_true rfl) rfl rfl ?_
  intro p e s m args below meth c A R Q H locs ls E hfr hlo RET G hl
  have E : mE p s m meth c cX10_inForce args 1 RX10 D K A := E
  have hl : lv_has ls 1 [(0, .ref (ad 0))] := hl
  refine lv_aload_n E.1 E.2.1 dX10_inForce_0 rfl (lv_at hl 0 rfl) ?_
  refine lv_aload_n E.1 E.2.1 dX10_inForce_1 rfl (lv_at hl 0 rfl) ?_
  refine t_get E G 10 7 (rfl : ro 0 = 10) (C := RX10) (T := TX10) (N := 17) rfl (by decide) (by decide) (by decide) mw_fl_10_55 (v := .ref (ad 56)) (fvl_o (n := 56) rfl) dX10_inForce_2 ?_
  refine t_get E G 2 3 (rfl : ro 56 = 2) (C := RX2) (T := TX2) (N := 5) rfl (by decide) (by decide) (by decide) mw_fl_10_146 (fvl_i rfl) dX10_inForce_5 ?_
  refine lv_topi (fun v1 e2 => ?_)
  refine t_vr E G hl (k_ruleOf l D K ad z o v1) 10 (rfl : ro 0 = 10) (by decide) rfl rfl 1 rfl mw_code_X10_ruleOf mw_ini_10 mw_ml_10_326 mw_inst_X10_ruleOf mw_sel_X10_ruleOf hd_X10_ruleOf ⟨Nat.le_trans (by decide) hfr, Nat.le_trans (by decide) hlo⟩ rfl rfl rfl (Nat.le_of_ble_eq_true rfl) dX10_inForce_8 (fun r4 zz3 H locs hp5 G => ?_)
  obtain ⟨hz7, h6⟩ := hp5
  rw [hz7] at G
  exact RET G ⟨rfl, h6⟩ dX10_inForce_11
