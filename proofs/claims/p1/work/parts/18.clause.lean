theorem mw_code_X7_blame : (Cond.code yX7_blame cX7_blame 2 none : Cond) ∈ cw := cw_of (List.mem_append_right _ (List.mem_append_right _ (List.mem_append_right _ (List.mem_append_left _ (List.mem_of_getElem? (i := 112) rfl))))) (by decide +kernel)
theorem mw_code_X7_readToken : (Cond.code yX7_readToken cX7_readToken 1 none : Cond) ∈ cw := cw_of (List.mem_append_right _ (List.mem_append_right _ (List.mem_append_left _ (List.mem_of_getElem? (i := 215) rfl)))) (by decide +kernel)
theorem mw_fl_9_43 : (Cond.fieldLink RX9 43 "LureTown$Tape" "token" "I" : Cond) ∈ cw := cw_of (List.mem_append_right _ (List.mem_append_left _ (List.mem_of_getElem? (i := 43) (by decide +kernel)))) (by decide +kernel)
theorem mw_inst_X7_blame : (Cond.instanceMethod yX7_blame : Cond) ∈ cw := cw_of (List.mem_append_right _ (List.mem_append_right _ (List.mem_append_right _ (List.mem_append_left _ (List.mem_of_getElem? (i := 110) (by decide +kernel)))))) (by decide +kernel)
theorem mw_inst_X7_readToken : (Cond.instanceMethod yX7_readToken : Cond) ∈ cw := cw_of (List.mem_append_right _ (List.mem_append_right _ (List.mem_append_left _ (List.mem_of_getElem? (i := 213) (by decide +kernel))))) (by decide +kernel)
theorem mw_ml_9_49 : (Cond.methodLink RX9 49 yX7_readToken : Cond) ∈ cw := cw_of (List.mem_append_right _ (List.mem_append_right _ (List.mem_append_left _ (List.mem_of_getElem? (i := 212) (by decide +kernel))))) (by decide +kernel)
theorem mw_ml_9_52 : (Cond.methodLink RX9 52 yX7_blame : Cond) ∈ cw := cw_of (List.mem_append_right _ (List.mem_append_right _ (List.mem_append_right _ (List.mem_append_left _ (List.mem_of_getElem? (i := 109) (by decide +kernel)))))) (by decide +kernel)
theorem mw_sel_X7_blame : (Cond.selects RX7 yX7_blame yX7_blame : Cond) ∈ cw := cw_of (List.mem_append_right _ (List.mem_append_right _ (List.mem_append_right _ (List.mem_append_left _ (List.mem_of_getElem? (i := 111) (by decide +kernel)))))) (by decide +kernel)
theorem mw_sel_X7_readToken : (Cond.selects RX7 yX7_readToken yX7_readToken : Cond) ∈ cw := cw_of (List.mem_append_right _ (List.mem_append_right _ (List.mem_append_left _ (List.mem_of_getElem? (i := 214) (by decide +kernel))))) (by decide +kernel)
theorem dX9_readClause_0 : decode cX9_readClause 0 = .ok (.aload_n 0, 1) := by decide +kernel
theorem dX9_readClause_1 : decode cX9_readClause 1 = .ok (.getfield 12, 3) := by decide +kernel
theorem dX9_readClause_4 : decode cX9_readClause 4 = .ok (.invokevirtual 49, 3) := by decide +kernel
theorem dX9_readClause_7 : decode cX9_readClause 7 = .ok (.aload_n 0, 1) := by decide +kernel
theorem dX9_readClause_8 : decode cX9_readClause 8 = .ok (.getfield 12, 3) := by decide +kernel
theorem dX9_readClause_11 : decode cX9_readClause 11 = .ok (.getfield 43, 3) := by decide +kernel
theorem dX9_readClause_14 : decode cX9_readClause 14 = .ok (.istore_n 2, 1) := by decide +kernel
theorem dX9_readClause_15 : decode cX9_readClause 15 = .ok (.iload_n 2, 1) := by decide +kernel
theorem dX9_readClause_16 : decode cX9_readClause 16 = .ok (.bipush 16, 2) := by decide +kernel
theorem dX9_readClause_18 : decode cX9_readClause 18 = .ok (.if_icmp .eq 28, 3) := by decide +kernel
theorem dX9_readClause_21 : decode cX9_readClause 21 = .ok (.iload_n 2, 1) := by decide +kernel
theorem dX9_readClause_22 : decode cX9_readClause 22 = .ok (.bipush 17, 2) := by decide +kernel
theorem dX9_readClause_24 : decode cX9_readClause 24 = .ok (.if_icmp .eq 22, 3) := by decide +kernel
theorem dX9_readClause_27 : decode cX9_readClause 27 = .ok (.iload_n 2, 1) := by decide +kernel
theorem dX9_readClause_28 : decode cX9_readClause 28 = .ok (.bipush 18, 2) := by decide +kernel
theorem dX9_readClause_30 : decode cX9_readClause 30 = .ok (.if_icmp .eq 16, 3) := by decide +kernel
theorem dX9_readClause_33 : decode cX9_readClause 33 = .ok (.iload_n 2, 1) := by decide +kernel
theorem dX9_readClause_34 : decode cX9_readClause 34 = .ok (.ifCond .eq 12, 3) := by decide +kernel
theorem dX9_readClause_37 : decode cX9_readClause 37 = .ok (.aload_n 0, 1) := by decide +kernel
theorem dX9_readClause_38 : decode cX9_readClause 38 = .ok (.getfield 12, 3) := by decide +kernel
theorem dX9_readClause_41 : decode cX9_readClause 41 = .ok (.iconst 0, 1) := by decide +kernel
theorem dX9_readClause_42 : decode cX9_readClause 42 = .ok (.invokevirtual 52, 3) := by decide +kernel
theorem dX9_readClause_45 : decode cX9_readClause 45 = .ok (.return_, 1) := by decide +kernel
theorem hd_X7_blame : yX7_blame.cls ≠ "java/lang/invoke/MethodHandle" ∧ yX7_blame.cls ≠ "java/lang/invoke/VarHandle" ∧ (parseMethodDescriptor yX7_blame.desc).map (fun d => d.parameters.length) = some 1 := ⟨by decide +kernel, by decide +kernel, by decide +kernel⟩
theorem hd_X7_readToken : yX7_readToken.cls ≠ "java/lang/invoke/MethodHandle" ∧ yX7_readToken.cls ≠ "java/lang/invoke/VarHandle" ∧ (parseMethodDescriptor yX7_readToken.desc).map (fun d => d.parameters.length) = some 0 := ⟨by decide +kernel, by decide +kernel, by decide +kernel⟩
set_option maxHeartbeats 4000000 in
set_option maxRecDepth 100000 in
theorem k_readClause (l : Launch) (D : va_G) (K : Nat → ClassId) (tr : Nat) (dr : Nat) (t2 : Nat) (tp : Nat) (bt : Nat) : mV (S := mU) l yX9_readClause cX9_readClause 5 ({ frames := 1, cells := 0, slots := 0, locals := 21 }) D K [(tr, .inr (9, [.ref tp, .ref dr, .ref t2])), (tp, .inr (7, [.ref bt, .int 0, .int 0, .int 40, .int 0, .int 0, .int 0]))] [.ref tr, .int 0] (fun u => True) (fun u => [(tr, .inr (9, [.ref tp, .ref dr, .ref t2])), (tp, .inr (7, [.ref bt, .int 0, .int 1, .int 40, .int 0, .int 0, .int 0]))]) := by
  refine m_enterV (by decide) (Nat.le_of_ble_eq_true rfl) ?_
  intro p e s m args below meth c A ls E hr hN G hl
  have E : mE p s m meth c cX9_readClause args 5 RX9 D K A := E
  have hl : lv_has ls 5 [(0, .ref tr), (1, .int 0)] := hl
  obtain ⟨H, hH⟩ : ∃ H, H = s.heap := ⟨_, rfl⟩
  obtain ⟨locs, hlo⟩ : ∃ L : List Loc, L = [] := ⟨_, rfl⟩
  rw [← hH, ← hlo] at G
  rw [← hH, ← hlo]
  have G : mG D A s H locs [(tr, .inr (9, [.ref tp, .ref dr, .ref t2])), (tp, .inr (7, [.ref bt, .int 0, .int 0, .int 40, .int 0, .int 0, .int 0]))] := G
  clear hH hlo
  refine lv_aload_n E.1 E.2.1 dX9_readClause_0 rfl (lv_at hl 0 rfl) ?_
  refine m_get E G 0 (ci := 9) rfl 0 (C := RX9) (T := TX9) (N := 3) rfl (by decide) mw_fl_9_12 (v := .ref tp) rfl dX9_readClause_1 ?_
  refine m_vv E G hl (k_readToken l D K tp bt) (wr := [(tr, .inr (9, [.ref tp, .ref dr, .ref t2]))]) [1] [0] rfl rfl (by decide) (by decide) (by decide) 0 (ci := 7) rfl rfl rfl 0 rfl mw_code_X7_readToken mw_ini_7 mw_ml_9_49 mw_inst_X7_readToken mw_sel_X7_readToken hd_X7_readToken ⟨by decide, by decide⟩ rfl (Nat.le_of_ble_eq_true rfl) ⟨by decide, by decide⟩ dX9_readClause_4 (fun u_1 H locs hp G => ?_)
  have G : mG D A s H locs [(tr, .inr (9, [.ref tp, .ref dr, .ref t2])), (tp, .inr (7, [.ref bt, .int 0, .int 0, .int 40, .int 0, .int 0, .int 0]))] := G
  refine lv_aload_n E.1 E.2.1 dX9_readClause_7 rfl (lv_at hl 0 rfl) ?_
  refine m_get E G 0 (ci := 9) rfl 0 (C := RX9) (T := TX9) (N := 3) rfl (by decide) mw_fl_9_12 (v := .ref tp) rfl dX9_readClause_8 ?_
  refine m_get E G 1 (ci := 7) rfl 3 (C := RX7) (T := TX7) (N := 7) rfl (by decide) mw_fl_9_43 (v := .int 40) rfl dX9_readClause_11 ?_
  refine lv_istore_n (lv' := [(2, .int 40), (0, .ref tr), (1, .int 0)]) E.1 E.2.1 dX9_readClause_14 rfl hl (by decide) rfl (fun ls hl => ?_)
  refine lv_iload_n E.1 E.2.1 dX9_readClause_15 rfl (lv_at hl 0 rfl) ?_
  refine lv_bipush (v := 16) E.1 E.2.1 dX9_readClause_16 (by decide) ?_
  refine lv_icmp_eq (tgt := 46) E.1 E.2.1 dX9_readClause_18 (by decide) (fun h => absurd h (by decide)) (fun _ => ?_)
  refine lv_iload_n E.1 E.2.1 dX9_readClause_21 rfl (lv_at hl 0 rfl) ?_
  refine lv_bipush (v := 17) E.1 E.2.1 dX9_readClause_22 (by decide) ?_
  refine lv_icmp_eq (tgt := 46) E.1 E.2.1 dX9_readClause_24 (by decide) (fun h => absurd h (by decide)) (fun _ => ?_)
  refine lv_iload_n E.1 E.2.1 dX9_readClause_27 rfl (lv_at hl 0 rfl) ?_
  refine lv_bipush (v := 18) E.1 E.2.1 dX9_readClause_28 (by decide) ?_
  refine lv_icmp_eq (tgt := 46) E.1 E.2.1 dX9_readClause_30 (by decide) (fun h => absurd h (by decide)) (fun _ => ?_)
  refine lv_iload_n E.1 E.2.1 dX9_readClause_33 rfl (lv_at hl 0 rfl) ?_
  refine lv_if_eq (tgt := 46) E.1 E.2.1 dX9_readClause_34 (by decide) (fun h => absurd h (by decide)) (fun _ => ?_)
  refine lv_aload_n E.1 E.2.1 dX9_readClause_37 rfl (lv_at hl 1 rfl) ?_
  refine m_get E G 0 (ci := 9) rfl 0 (C := RX9) (T := TX9) (N := 3) rfl (by decide) mw_fl_9_12 (v := .ref tp) rfl dX9_readClause_38 ?_
  refine lv_iconst (v := 0) E.1 E.2.1 dX9_readClause_41 (by decide) ?_
  refine m_vv E G hl (k_blame l D K tp bt) (wr := [(tr, .inr (9, [.ref tp, .ref dr, .ref t2]))]) [1] [0] rfl rfl (by decide) (by decide) (by decide) 0 (ci := 7) rfl rfl rfl 1 rfl mw_code_X7_blame mw_ini_7 mw_ml_9_52 mw_inst_X7_blame mw_sel_X7_blame hd_X7_blame ⟨by decide, by decide⟩ rfl (Nat.le_of_ble_eq_true rfl) ⟨by decide, by decide⟩ dX9_readClause_42 (fun u_3 H locs hp G => ?_)
  have G : mG D A s H locs [(tr, .inr (9, [.ref tp, .ref dr, .ref t2])), (tp, .inr (7, [.ref bt, .int 0, .int 1, .int 40, .int 0, .int 0, .int 0]))] := G
  exact m_retv E G hr (fun _ => 0, fun _ _ => 0, fun _ _ => none) trivial [0, 1] (by decide) rfl (by decide) (by decide) dX9_readClause_45
