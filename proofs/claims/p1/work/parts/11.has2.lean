theorem mw_code_X10_hasLure : (Cond.code yX10_hasLure cX10_hasLure 2 (some .boolean) : Cond) ∈ cw := cw_of (List.mem_append_right _ (List.mem_append_right _ (List.mem_append_right _ (List.mem_append_right _ (List.mem_append_left _ (List.mem_of_getElem? (i := 18) rfl)))))) (by decide +kernel)
theorem mw_ini_10 : (Cond.initialized RX10 : Cond) ∈ cw := cw_of (List.mem_append_right _ (List.mem_append_left _ (List.mem_of_getElem? (i := 1) (by decide +kernel)))) (by decide +kernel)
theorem mw_inst_X10_hasLure : (Cond.instanceMethod yX10_hasLure : Cond) ∈ cw := cw_of (List.mem_append_right _ (List.mem_append_right _ (List.mem_append_right _ (List.mem_append_right _ (List.mem_append_left _ (List.mem_of_getElem? (i := 17) (by decide +kernel))))))) (by decide +kernel)
theorem mw_ml_10_149 : (Cond.methodLink RX10 149 yX10_hasLure : Cond) ∈ cw := cw_of (List.mem_append_right _ (List.mem_append_right _ (List.mem_append_right _ (List.mem_append_right _ (List.mem_append_left _ (List.mem_of_getElem? (i := 15) (by decide +kernel))))))) (by decide +kernel)
theorem mw_sel_X10_hasLure : (Cond.selects RX10 yX10_hasLure yX10_hasLure : Cond) ∈ cw := cw_of (List.mem_append_left _ (List.mem_of_getElem? (i := 22) (by decide +kernel))) (by decide +kernel)
theorem dX10_hasSetLure_0 : decode cX10_hasSetLure 0 = .ok (.aload_n 0, 1) := by decide +kernel
theorem dX10_hasSetLure_1 : decode cX10_hasSetLure 1 = .ok (.iload_n 1, 1) := by decide +kernel
theorem dX10_hasSetLure_2 : decode cX10_hasSetLure 2 = .ok (.invokevirtual 149, 3) := by decide +kernel
theorem dX10_hasSetLure_5 : decode cX10_hasSetLure 5 = .ok (.ifCond .eq 21, 3) := by decide +kernel
theorem dX10_hasSetLure_26 : decode cX10_hasSetLure 26 = .ok (.iconst 0, 1) := by decide +kernel
theorem dX10_hasSetLure_27 : decode cX10_hasSetLure 27 = .ok (.ireturn, 1) := by decide +kernel
theorem hd_X10_hasLure : yX10_hasLure.cls ≠ "java/lang/invoke/MethodHandle" ∧ yX10_hasLure.cls ≠ "java/lang/invoke/VarHandle" ∧ (parseMethodDescriptor yX10_hasLure.desc).map (fun d => d.parameters.length) = some 1 := ⟨by decide +kernel, by decide +kernel, by decide +kernel⟩
set_option maxHeartbeats 4000000 in
set_option maxRecDepth 100000 in
theorem k_hasSetLure (l : Launch) (D : va_G) (K : Nat → ClassId) (h0 : Nat) (tp : Nat) (tr : Nat) (rr : Nat) (dr : Nat) (rs : Nat) (nr : Nat) (nw : Nat) (im : Nat) (ac : Nat) (co : Nat) (al : Nat) (ta : Nat) (ma : Nat) (ga : Nat) (og : Nat) (pl : Nat) (sa : Nat) (no : Nat) (j0 : Nat) (j1 : Nat) (j2 : Nat) (j3 : Nat) (j4 : Nat) (j5 : Nat) (p1 : Int32) : mI (S := mU) l yX10_hasSetLure cX10_hasSetLure 2 .boolean ({ frames := 1, cells := 0, slots := 0, locals := 21 }) D K [(h0, .inr (10, [.ref tp, .ref tr, .ref rr, .ref dr, .ref rs, .int 0, .ref nr, .ref nw, .ref im, .int 0, .ref ac, .ref co, .ref al, .ref ta, .ref ma, .ref ga, .ref og])), (nw, .inr (2, [.ref pl, .ref sa, .ref no, .int (-1), .int 0])), (pl, .inr (8, [.int 0, .int 0, .int 0, .int 0, .ref j0, .ref j1, .ref j2, .ref j3, .ref j4, .ref j5]))] [.ref h0, .int p1] (fun r u => r = 0) (fun u => []) := by
  refine m_enterI (by decide) (Nat.le_of_ble_eq_true rfl) ?_
  intro p e s m args below meth c A ls E hr G hl
  have E : mE p s m meth c cX10_hasSetLure args 2 RX10 D K A := E
  have hl : lv_has ls 2 [(0, .ref h0), (1, .int p1)] := hl
  obtain ⟨H, hH⟩ : ∃ H, H = s.heap := ⟨_, rfl⟩
  obtain ⟨locs, hlo⟩ : ∃ L : List Loc, L = [] := ⟨_, rfl⟩
  rw [← hH, ← hlo] at G
  rw [← hH, ← hlo]
  have G : mG D A s H locs [(h0, .inr (10, [.ref tp, .ref tr, .ref rr, .ref dr, .ref rs, .int 0, .ref nr, .ref nw, .ref im, .int 0, .ref ac, .ref co, .ref al, .ref ta, .ref ma, .ref ga, .ref og])), (nw, .inr (2, [.ref pl, .ref sa, .ref no, .int (-1), .int 0])), (pl, .inr (8, [.int 0, .int 0, .int 0, .int 0, .ref j0, .ref j1, .ref j2, .ref j3, .ref j4, .ref j5]))] := G
  clear hH hlo
  refine lv_aload_n E.1 E.2.1 dX10_hasSetLure_0 rfl (lv_at hl 0 rfl) ?_
  refine lv_iload_n E.1 E.2.1 dX10_hasSetLure_1 rfl (lv_at hl 1 rfl) ?_
  refine m_vi E G hl (k_hasLure l D K h0 tp tr rr dr rs nr nw im ac co al ta ma ga og pl sa no j0 j1 j2 j3 j4 j5 p1) (wr := []) [0, 1, 2] [] rfl rfl (by decide) (by decide) (by decide) 0 (ci := 10) rfl rfl rfl 1 rfl mw_code_X10_hasLure mw_ini_10 mw_ml_10_149 mw_inst_X10_hasLure mw_sel_X10_hasLure hd_X10_hasLure ⟨by decide, by decide⟩ rfl (Nat.le_of_ble_eq_true rfl) ⟨by decide, by decide⟩ dX10_hasSetLure_2 (fun r_2 u_1 H locs hp G => ?_)
  have G : mG D A s H locs [] := G
  subst hp
  refine lv_if_eq (tgt := 26) E.1 E.2.1 dX10_hasSetLure_5 (by decide) (fun _ => ?_) (fun h => absurd (by decide) h)
  refine lv_iconst (v := 0) E.1 E.2.1 dX10_hasSetLure_26 (by decide) ?_
  exact m_reti E G hr (by decide) (fun _ => 0, fun _ _ => 0, fun _ _ => none) rfl [] (by decide) rfl (by decide) (by decide) dX10_hasSetLure_27
