theorem mw_code_X5_takeClause : (Cond.code yX5_takeClause cX5_takeClause 1 none : Cond) ∈ cw := cw_of (List.mem_append_right _ (List.mem_append_right _ (List.mem_append_right _ (List.mem_append_left _ (List.mem_of_getElem? (i := 198) rfl))))) (by decide +kernel)
theorem mw_ini_5 : (Cond.initialized RX5 : Cond) ∈ cw := cw_of (List.mem_append_right _ (List.mem_append_left _ (List.mem_of_getElem? (i := 6) (by decide +kernel)))) (by decide +kernel)
theorem mw_inst_X5_takeClause : (Cond.instanceMethod yX5_takeClause : Cond) ∈ cw := cw_of (List.mem_append_right _ (List.mem_append_right _ (List.mem_append_right _ (List.mem_append_left _ (List.mem_of_getElem? (i := 197) (by decide +kernel)))))) (by decide +kernel)
theorem mw_ml_5_63 : (Cond.methodLink RX5 63 yX5_takeClause : Cond) ∈ cw := cw_of (List.mem_append_right _ (List.mem_append_right _ (List.mem_append_right _ (List.mem_append_left _ (List.mem_of_getElem? (i := 195) (by decide +kernel)))))) (by decide +kernel)
theorem mw_sel_X5_takeClause : (Cond.selects RX5 yX5_takeClause yX5_takeClause : Cond) ∈ cw := cw_of (List.mem_append_left _ (List.mem_of_getElem? (i := 13) (by decide +kernel))) (by decide +kernel)
theorem dX5_takeToken_0 : decode cX5_takeToken 0 = .ok (.aload_n 0, 1) := by decide +kernel
theorem dX5_takeToken_1 : decode cX5_takeToken 1 = .ok (.getfield 35, 3) := by decide +kernel
theorem dX5_takeToken_4 : decode cX5_takeToken 4 = .ok (.tableswitch 49 0 2 #[28, 35, 42], 28) := by decide +kernel
theorem dX5_takeToken_32 : decode cX5_takeToken 32 = .ok (.aload_n 0, 1) := by decide +kernel
theorem dX5_takeToken_33 : decode cX5_takeToken 33 = .ok (.invokevirtual 63, 3) := by decide +kernel
theorem dX5_takeToken_36 : decode cX5_takeToken 36 = .ok (.goto 21, 3) := by decide +kernel
theorem dX5_takeToken_57 : decode cX5_takeToken 57 = .ok (.return_, 1) := by decide +kernel
theorem hd_X5_takeClause : yX5_takeClause.cls ≠ "java/lang/invoke/MethodHandle" ∧ yX5_takeClause.cls ≠ "java/lang/invoke/VarHandle" ∧ (parseMethodDescriptor yX5_takeClause.desc).map (fun d => d.parameters.length) = some 0 := ⟨by decide +kernel, by decide +kernel, by decide +kernel⟩
set_option maxHeartbeats 4000000 in
set_option maxRecDepth 100000 in
theorem k_takeToken (l : Launch) (D : va_G) (K : Nat → ClassId) (rr : Nat) (r1 : Nat) (ru : Nat) (tp : Nat) (bt : Nat) : mV (S := mU) l yX5_takeToken cX5_takeToken 1 ({ frames := 2, cells := 0, slots := 0, locals := 41 }) D K [(rr, .inr (5, [.ref tp, .ref r1, .int 0, .int 0, .int 0, .int 0, .int 0, .int 0, .ref ru])), (tp, .inr (7, [.ref bt, .int 0, .int 0, .int 40, .int 0, .int 0, .int 0]))] [.ref rr] (fun u => True) (fun u => [(rr, .inr (5, [.ref tp, .ref r1, .int 0, .int 0, .int 0, .int 0, .int 0, .int 0, .ref ru])), (tp, .inr (7, [.ref bt, .int 0, .int 1, .int 40, .int 0, .int 0, .int 0]))]) := by
  refine m_enterV (by decide) (Nat.le_of_ble_eq_true rfl) ?_
  intro p e s m args below meth c A ls E hr hN G hl
  have E : mE p s m meth c cX5_takeToken args 1 RX5 D K A := E
  have hl : lv_has ls 1 [(0, .ref rr)] := hl
  obtain ⟨H, hH⟩ : ∃ H, H = s.heap := ⟨_, rfl⟩
  obtain ⟨locs, hlo⟩ : ∃ L : List Loc, L = [] := ⟨_, rfl⟩
  rw [← hH, ← hlo] at G
  rw [← hH, ← hlo]
  have G : mG D A s H locs [(rr, .inr (5, [.ref tp, .ref r1, .int 0, .int 0, .int 0, .int 0, .int 0, .int 0, .ref ru])), (tp, .inr (7, [.ref bt, .int 0, .int 0, .int 40, .int 0, .int 0, .int 0]))] := G
  clear hH hlo
  refine lv_aload_n E.1 E.2.1 dX5_takeToken_0 rfl (lv_at hl 0 rfl) ?_
  refine m_get E G 0 (ci := 5) rfl 6 (C := RX5) (T := TX5) (N := 9) rfl (by decide) mw_fl_5_35 (v := .int 0) rfl dX5_takeToken_1 ?_
  refine lv_tableIn (off := 28) (tgt := 32) E.1 E.2.1 dX5_takeToken_4 (by decide) (by decide) (by decide) (by decide) ?_
  refine lv_aload_n E.1 E.2.1 dX5_takeToken_32 rfl (lv_at hl 0 rfl) ?_
  refine m_vv E G hl (k_takeClause l D K rr r1 ru tp bt) (wr := []) [0, 1] [] rfl rfl (by decide) (by decide) (by decide) 0 (ci := 5) rfl rfl rfl 0 rfl mw_code_X5_takeClause mw_ini_5 mw_ml_5_63 mw_inst_X5_takeClause mw_sel_X5_takeClause hd_X5_takeClause ⟨by decide, by decide⟩ rfl (Nat.le_of_ble_eq_true rfl) ⟨by decide, by decide⟩ dX5_takeToken_33 (fun u_1 H locs hp G => ?_)
  have G : mG D A s H locs [(rr, .inr (5, [.ref tp, .ref r1, .int 0, .int 0, .int 0, .int 0, .int 0, .int 0, .ref ru])), (tp, .inr (7, [.ref bt, .int 0, .int 1, .int 40, .int 0, .int 0, .int 0]))] := G
  refine lv_goto (tgt := 57) E.1 E.2.1 dX5_takeToken_36 (by decide) ?_
  exact m_retv E G hr (fun _ => 0, fun _ _ => 0, fun _ _ => none) trivial [0, 1] (by decide) rfl (by decide) (by decide) dX5_takeToken_57
