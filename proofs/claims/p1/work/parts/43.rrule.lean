theorem mw_code_X11_readsAll : (Cond.code yX11_readsAll cX11_readsAll 2 (some .boolean) : Cond) ∈ cw := cw_of (List.mem_append_right _ (List.mem_append_right _ (List.mem_append_right _ (List.mem_append_right _ (List.mem_append_right _ (List.mem_append_left _ (List.mem_of_getElem? (i := 239) rfl))))))) (by decide +kernel)
theorem mw_inst_X11_readsAll : (Cond.instanceMethod yX11_readsAll : Cond) ∈ cw := cw_of (List.mem_append_right _ (List.mem_append_right _ (List.mem_append_right _ (List.mem_append_right _ (List.mem_append_right _ (List.mem_append_left _ (List.mem_of_getElem? (i := 238) (by decide +kernel)))))))) (by decide +kernel)
theorem mw_ml_11_261 : (Cond.methodLink RX11 261 yX11_readsAll : Cond) ∈ cw := cw_of (List.mem_append_right _ (List.mem_append_right _ (List.mem_append_right _ (List.mem_append_right _ (List.mem_append_right _ (List.mem_append_left _ (List.mem_of_getElem? (i := 236) (by decide +kernel)))))))) (by decide +kernel)
theorem mw_sel_X11_readsAll : (Cond.selects RX11 yX11_readsAll yX11_readsAll : Cond) ∈ cw := cw_of (List.mem_append_left _ (List.mem_of_getElem? (i := 48) (by decide +kernel))) (by decide +kernel)
theorem dX11_rule_0 : decode cX11_rule 0 = .ok (.aload_n 0, 1) := by decide +kernel
theorem dX11_rule_1 : decode cX11_rule 1 = .ok (.getfield 258, 3) := by decide +kernel
theorem dX11_rule_4 : decode cX11_rule 4 = .ok (.bipush 6, 2) := by decide +kernel
theorem dX11_rule_6 : decode cX11_rule 6 = .ok (.if_icmp .ne 5, 3) := by decide +kernel
theorem dX11_rule_11 : decode cX11_rule 11 = .ok (.aload_n 0, 1) := by decide +kernel
theorem dX11_rule_12 : decode cX11_rule 12 = .ok (.aload_n 0, 1) := by decide +kernel
theorem dX11_rule_13 : decode cX11_rule 13 = .ok (.getfield 258, 3) := by decide +kernel
theorem dX11_rule_16 : decode cX11_rule 16 = .ok (.putfield 147, 3) := by decide +kernel
theorem dX11_rule_19 : decode cX11_rule 19 = .ok (.aload_n 0, 1) := by decide +kernel
theorem dX11_rule_20 : decode cX11_rule 20 = .ok (.getfield 23, 3) := by decide +kernel
theorem dX11_rule_23 : decode cX11_rule 23 = .ok (.aload_n 0, 1) := by decide +kernel
theorem dX11_rule_24 : decode cX11_rule 24 = .ok (.getfield 147, 3) := by decide +kernel
theorem dX11_rule_27 : decode cX11_rule 27 = .ok (.iconst 0, 1) := by decide +kernel
theorem dX11_rule_28 : decode cX11_rule 28 = .ok (.iastore, 1) := by decide +kernel
theorem dX11_rule_29 : decode cX11_rule 29 = .ok (.aload_n 0, 1) := by decide +kernel
theorem dX11_rule_30 : decode cX11_rule 30 = .ok (.invokevirtual 261, 3) := by decide +kernel
theorem dX11_rule_33 : decode cX11_rule 33 = .ok (.ifCond .ne 11, 3) := by decide +kernel
theorem dX11_rule_36 : decode cX11_rule 36 = .ok (.bipush (-2), 2) := by decide +kernel
theorem dX11_rule_38 : decode cX11_rule 38 = .ok (.aload_n 0, 1) := by decide +kernel
theorem dX11_rule_39 : decode cX11_rule 39 = .ok (.getfield 90, 3) := by decide +kernel
theorem dX11_rule_42 : decode cX11_rule 42 = .ok (.isub, 1) := by decide +kernel
theorem dX11_rule_43 : decode cX11_rule 43 = .ok (.ireturn, 1) := by decide +kernel
theorem hd_X11_readsAll : yX11_readsAll.cls ≠ "java/lang/invoke/MethodHandle" ∧ yX11_readsAll.cls ≠ "java/lang/invoke/VarHandle" ∧ (parseMethodDescriptor yX11_readsAll.desc).map (fun d => d.parameters.length) = some 0 := ⟨by decide +kernel, by decide +kernel, by decide +kernel⟩
set_option maxHeartbeats 4000000 in
set_option maxRecDepth 100000 in
theorem r_rule (l : Launch) (D : va_G) (K : Nat → ClassId) (h0 : Nat) (m_tape : Nat) (m_sign : Nat) (m_length : Nat) (m_clause : Nat) (m_clauses : Nat) (m_read : Nat) (m_open : Nat) (m_stack : Nat) (m_word : Nat) (m_said : Nat) (m_goesTo : Nat) (m_hadBy : Nat) (m_wasSaid : Nat) (m_kept : Nat) (m_hasBy : Nat) (m_standsThen : Nat) (m_isFit : Nat) (m_cornerThen : Nat) (m_images : Nat) (m_imageForce : Nat) (m_imageX : Nat) (m_isMade : Nat) : mI (S := mU) l yX11_rule cX11_rule 1 .int ({ frames := 4, cells := 0, slots := 0, locals := 89 }) D K [(h0, .inr (11, [.ref m_tape, .int 0, .int 0, .ref m_sign, .ref m_length, .ref m_clause, .ref m_clauses, .ref m_read, .int 0, .int 0, .int 0, .int 0, .int 0, .int 0, .int 0, .ref m_open, .int 0, .ref m_stack, .int 0, .ref m_word, .ref m_said, .int (-1), .int 0, .ref m_goesTo, .ref m_hadBy, .ref m_wasSaid, .int 0, .ref m_kept, .ref m_hasBy, .ref m_standsThen, .ref m_isFit, .ref m_cornerThen, .long 0, .ref m_images, .ref m_imageForce, .ref m_imageX, .ref m_isMade])), (m_length, .inl (K 0, 7, .inl (fun _ => 0))), (m_clauses, .inl (K 0, 6, .inl (fun _ => 0)))] [.ref h0] (fun r u => r = (-3)) (fun u => []) := by
  refine m_enterI (by decide) (Nat.le_of_ble_eq_true rfl) ?_
  intro p e s m args below meth c A ls E hr G hl
  have E : mE p s m meth c cX11_rule args 1 RX11 D K A := E
  have hl : lv_has ls 1 [(0, .ref h0)] := hl
  obtain ⟨H, hH⟩ : ∃ H, H = s.heap := ⟨_, rfl⟩
  obtain ⟨locs, hlo⟩ : ∃ L : List Loc, L = [] := ⟨_, rfl⟩
  rw [← hH, ← hlo] at G
  rw [← hH, ← hlo]
  have G : mG D A s H locs [(h0, .inr (11, [.ref m_tape, .int 0, .int 0, .ref m_sign, .ref m_length, .ref m_clause, .ref m_clauses, .ref m_read, .int 0, .int 0, .int 0, .int 0, .int 0, .int 0, .int 0, .ref m_open, .int 0, .ref m_stack, .int 0, .ref m_word, .ref m_said, .int (-1), .int 0, .ref m_goesTo, .ref m_hadBy, .ref m_wasSaid, .int 0, .ref m_kept, .ref m_hasBy, .ref m_standsThen, .ref m_isFit, .ref m_cornerThen, .long 0, .ref m_images, .ref m_imageForce, .ref m_imageX, .ref m_isMade])), (m_length, .inl (K 0, 7, .inl (fun _ => 0))), (m_clauses, .inl (K 0, 6, .inl (fun _ => 0)))] := G
  clear hH hlo
  refine lv_aload_n E.1 E.2.1 dX11_rule_0 rfl (lv_at hl 0 rfl) ?_
  refine m_get E G 0 (ci := 11) rfl 2 (C := RX11) (T := TX11) (N := 37) rfl (by decide) mw_fl_11_258 (v := .int 0) rfl dX11_rule_1 ?_
  refine lv_bipush (v := 6) E.1 E.2.1 dX11_rule_4 (by decide) ?_
  refine lv_icmp_ne (tgt := 11) E.1 E.2.1 dX11_rule_6 (by decide) (fun _ => ?_) (fun h => absurd h (by decide))
  refine lv_aload_n E.1 E.2.1 dX11_rule_11 rfl (lv_at hl 0 rfl) ?_
  refine lv_aload_n E.1 E.2.1 dX11_rule_12 rfl (lv_at hl 0 rfl) ?_
  refine m_get E G 0 (ci := 11) rfl 2 (C := RX11) (T := TX11) (N := 37) rfl (by decide) mw_fl_11_258 (v := .int 0) rfl dX11_rule_13 ?_
  refine m_put E G 0 (ci := 11) rfl 11 (C := RX11) (T := TX11) (N := 37) rfl (by decide) mw_fl_11_147 rfl rfl rfl (Nat.le_of_ble_eq_true rfl) dX11_rule_16 (fun H locs G => ?_)
  have G : mG D A s H locs [(h0, .inr (11, [.ref m_tape, .int 0, .int 0, .ref m_sign, .ref m_length, .ref m_clause, .ref m_clauses, .ref m_read, .int 0, .int 0, .int 0, .int 0, .int 0, .int 0, .int 0, .ref m_open, .int 0, .ref m_stack, .int 0, .ref m_word, .ref m_said, .int (-1), .int 0, .ref m_goesTo, .ref m_hadBy, .ref m_wasSaid, .int 0, .ref m_kept, .ref m_hasBy, .ref m_standsThen, .ref m_isFit, .ref m_cornerThen, .long 0, .ref m_images, .ref m_imageForce, .ref m_imageX, .ref m_isMade])), (m_length, .inl (K 0, 7, .inl (fun _ => 0))), (m_clauses, .inl (K 0, 6, .inl (fun _ => 0)))] := G
  refine lv_aload_n E.1 E.2.1 dX11_rule_19 rfl (lv_at hl 0 rfl) ?_
  refine m_get E G 0 (ci := 11) rfl 6 (C := RX11) (T := TX11) (N := 37) rfl (by decide) mw_fl_11_23 (v := .ref m_clauses) rfl dX11_rule_20 ?_
  refine lv_aload_n E.1 E.2.1 dX11_rule_23 rfl (lv_at hl 0 rfl) ?_
  refine m_get E G 0 (ci := 11) rfl 11 (C := RX11) (T := TX11) (N := 37) rfl (by decide) mw_fl_11_147 (v := .int 0) rfl dX11_rule_24 ?_
  refine lv_iconst (v := 0) E.1 E.2.1 dX11_rule_27 (by decide) ?_
  refine m_iast E G 2 rfl (by unfold vp_in; decide) dX11_rule_28 (fun H locs G => ?_)
  obtain ⟨f_1, ef_1⟩ : ∃ f_1 : Nat → Int32, f_1 = (upd (fun _ => 0) (0 : Int32).toNatClampNeg (0 : Int32)) := ⟨_, rfl⟩
  have G : mG D A s H locs [(h0, .inr (11, [.ref m_tape, .int 0, .int 0, .ref m_sign, .ref m_length, .ref m_clause, .ref m_clauses, .ref m_read, .int 0, .int 0, .int 0, .int 0, .int 0, .int 0, .int 0, .ref m_open, .int 0, .ref m_stack, .int 0, .ref m_word, .ref m_said, .int (-1), .int 0, .ref m_goesTo, .ref m_hadBy, .ref m_wasSaid, .int 0, .ref m_kept, .ref m_hasBy, .ref m_standsThen, .ref m_isFit, .ref m_cornerThen, .long 0, .ref m_images, .ref m_imageForce, .ref m_imageX, .ref m_isMade])), (m_length, .inl (K 0, 7, .inl (fun _ => 0))), (m_clauses, .inl (K 0, 6, .inl f_1))] := by subst ef_1; exact G
  clear ef_1
  refine lv_aload_n E.1 E.2.1 dX11_rule_29 rfl (lv_at hl 0 rfl) ?_
  refine m_vi E G hl (r_readsAll_0 l D K h0 m_tape m_sign m_length m_clause m_clauses m_read m_open m_stack m_word m_said m_goesTo m_hadBy m_wasSaid m_kept m_hasBy m_standsThen m_isFit m_cornerThen m_images m_imageForce m_imageX m_isMade) (wr := [(m_clauses, .inl (K 0, 6, .inl f_1))]) [0, 1] [2] rfl rfl (by decide) (by decide) (by decide) 0 (ci := 11) rfl rfl rfl 0 rfl mw_code_X11_readsAll mw_ini_11 mw_ml_11_261 mw_inst_X11_readsAll mw_sel_X11_readsAll hd_X11_readsAll ⟨by decide, by decide⟩ rfl (Nat.le_of_ble_eq_true rfl) ⟨by decide, by decide⟩ dX11_rule_30 (fun r_3 u_2 H locs hp G => ?_)
  have G : mG D A s H locs [(m_clauses, .inl (K 0, 6, .inl f_1)), (h0, .inr (11, [.ref m_tape, .int 0, .int 0, .ref m_sign, .ref m_length, .ref m_clause, .ref m_clauses, .ref m_read, .int 0, .int 1, .int 0, .int 0, .int 0, .int 0, .int 0, .ref m_open, .int 0, .ref m_stack, .int 0, .ref m_word, .ref m_said, .int (-1), .int 0, .ref m_goesTo, .ref m_hadBy, .ref m_wasSaid, .int 0, .ref m_kept, .ref m_hasBy, .ref m_standsThen, .ref m_isFit, .ref m_cornerThen, .long 0, .ref m_images, .ref m_imageForce, .ref m_imageX, .ref m_isMade]))] := G
  subst hp
  refine lv_if_ne (tgt := 44) E.1 E.2.1 dX11_rule_33 (by decide) (fun h => absurd (by decide) h) (fun _ => ?_)
  refine lv_bipush (v := (-2)) E.1 E.2.1 dX11_rule_36 (by decide) ?_
  refine lv_aload_n E.1 E.2.1 dX11_rule_38 rfl (lv_at hl 0 rfl) ?_
  refine m_get E G 1 (ci := 11) rfl 9 (C := RX11) (T := TX11) (N := 37) rfl (by decide) mw_fl_11_90 (v := .int 1) rfl dX11_rule_39 ?_
  refine lv_isub E.1 E.2.1 dX11_rule_42 ?_
  refine m_ci (-3) (by decide) ?_
  exact m_reti E G hr rfl (fun _ => 0, fun _ _ => 0, fun _ _ => none) rfl [] (by decide) rfl (by decide) (by decide) dX11_rule_43
