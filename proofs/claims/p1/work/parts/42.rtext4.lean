theorem mw_code_X11_clauseHere : (Cond.code yX11_clauseHere cX11_clauseHere 3 (some .boolean) : Cond) ∈ cw := cw_of (List.mem_append_right _ (List.mem_append_right _ (List.mem_append_right _ (List.mem_append_right _ (List.mem_append_right _ (List.mem_append_right _ (List.mem_append_left _ (List.mem_of_getElem? (i := 3) rfl)))))))) (by decide +kernel)
theorem mw_fl_11_150 : (Cond.fieldLink RX11 150 "LureTownModel" "made" "I" : Cond) ∈ cw := cw_of (List.mem_append_right _ (List.mem_append_right _ (List.mem_append_right _ (List.mem_append_right _ (List.mem_append_right _ (List.mem_append_left _ (List.mem_of_getElem? (i := 119) (by decide +kernel)))))))) (by decide +kernel)
theorem mw_fl_11_246 : (Cond.fieldLink RX11 246 "LureTownModel" "lines" "I" : Cond) ∈ cw := cw_of (List.mem_append_right _ (List.mem_append_right _ (List.mem_append_right _ (List.mem_append_right _ (List.mem_append_right _ (List.mem_append_left _ (List.mem_of_getElem? (i := 121) (by decide +kernel)))))))) (by decide +kernel)
theorem mw_inst_X11_clauseHere : (Cond.instanceMethod yX11_clauseHere : Cond) ∈ cw := cw_of (List.mem_append_right _ (List.mem_append_right _ (List.mem_append_right _ (List.mem_append_right _ (List.mem_append_right _ (List.mem_append_right _ (List.mem_append_left _ (List.mem_of_getElem? (i := 2) (by decide +kernel))))))))) (by decide +kernel)
theorem mw_ml_11_255 : (Cond.methodLink RX11 255 yX11_clauseHere : Cond) ∈ cw := cw_of (List.mem_append_right _ (List.mem_append_right _ (List.mem_append_right _ (List.mem_append_right _ (List.mem_append_right _ (List.mem_append_right _ (List.mem_append_left _ (List.mem_of_getElem? (i := 0) (by decide +kernel))))))))) (by decide +kernel)
theorem mw_sel_X11_clauseHere : (Cond.selects RX11 yX11_clauseHere yX11_clauseHere : Cond) ∈ cw := cw_of (List.mem_append_left _ (List.mem_of_getElem? (i := 49) (by decide +kernel))) (by decide +kernel)
theorem dX11_readsAll_0 : decode cX11_readsAll 0 = .ok (.aload_n 0, 1) := by decide +kernel
theorem dX11_readsAll_1 : decode cX11_readsAll 1 = .ok (.getfield 17, 3) := by decide +kernel
theorem dX11_readsAll_4 : decode cX11_readsAll 4 = .ok (.aload_n 0, 1) := by decide +kernel
theorem dX11_readsAll_5 : decode cX11_readsAll 5 = .ok (.getfield 147, 3) := by decide +kernel
theorem dX11_readsAll_8 : decode cX11_readsAll 8 = .ok (.iconst 0, 1) := by decide +kernel
theorem dX11_readsAll_9 : decode cX11_readsAll 9 = .ok (.iastore, 1) := by decide +kernel
theorem dX11_readsAll_10 : decode cX11_readsAll 10 = .ok (.aload_n 0, 1) := by decide +kernel
theorem dX11_readsAll_11 : decode cX11_readsAll 11 = .ok (.iconst 0, 1) := by decide +kernel
theorem dX11_readsAll_12 : decode cX11_readsAll 12 = .ok (.putfield 246, 3) := by decide +kernel
theorem dX11_readsAll_15 : decode cX11_readsAll 15 = .ok (.aload_n 0, 1) := by decide +kernel
theorem dX11_readsAll_16 : decode cX11_readsAll 16 = .ok (.iconst 0, 1) := by decide +kernel
theorem dX11_readsAll_17 : decode cX11_readsAll 17 = .ok (.putfield 93, 3) := by decide +kernel
theorem dX11_readsAll_20 : decode cX11_readsAll 20 = .ok (.aload_n 0, 1) := by decide +kernel
theorem dX11_readsAll_21 : decode cX11_readsAll 21 = .ok (.iconst 0, 1) := by decide +kernel
theorem dX11_readsAll_22 : decode cX11_readsAll 22 = .ok (.putfield 90, 3) := by decide +kernel
theorem dX11_readsAll_25 : decode cX11_readsAll 25 = .ok (.aload_n 0, 1) := by decide +kernel
theorem dX11_readsAll_26 : decode cX11_readsAll 26 = .ok (.iconst 0, 1) := by decide +kernel
theorem dX11_readsAll_27 : decode cX11_readsAll 27 = .ok (.putfield 150, 3) := by decide +kernel
theorem dX11_readsAll_30 : decode cX11_readsAll 30 = .ok (.aload_n 0, 1) := by decide +kernel
theorem dX11_readsAll_31 : decode cX11_readsAll 31 = .ok (.invokevirtual 255, 3) := by decide +kernel
theorem dX11_readsAll_34 : decode cX11_readsAll 34 = .ok (.istore_n 1, 1) := by decide +kernel
theorem dX11_readsAll_35 : decode cX11_readsAll 35 = .ok (.iload_n 1, 1) := by decide +kernel
theorem dX11_readsAll_36 : decode cX11_readsAll 36 = .ok (.ifCond .eq 30, 3) := by decide +kernel
theorem dX11_readsAll_66 : decode cX11_readsAll 66 = .ok (.iload_n 1, 1) := by decide +kernel
theorem dX11_readsAll_67 : decode cX11_readsAll 67 = .ok (.ifCond .eq 21, 3) := by decide +kernel
theorem dX11_readsAll_88 : decode cX11_readsAll 88 = .ok (.aload_n 0, 1) := by decide +kernel
theorem dX11_readsAll_89 : decode cX11_readsAll 89 = .ok (.iconst 0, 1) := by decide +kernel
theorem dX11_readsAll_90 : decode cX11_readsAll 90 = .ok (.putfield 83, 3) := by decide +kernel
theorem dX11_readsAll_93 : decode cX11_readsAll 93 = .ok (.aload_n 0, 1) := by decide +kernel
theorem dX11_readsAll_94 : decode cX11_readsAll 94 = .ok (.getfield 90, 3) := by decide +kernel
theorem dX11_readsAll_97 : decode cX11_readsAll 97 = .ok (.ifCond .ne 7, 3) := by decide +kernel
theorem dX11_readsAll_104 : decode cX11_readsAll 104 = .ok (.iconst 0, 1) := by decide +kernel
theorem dX11_readsAll_105 : decode cX11_readsAll 105 = .ok (.ireturn, 1) := by decide +kernel
theorem hd_X11_clauseHere : yX11_clauseHere.cls ≠ "java/lang/invoke/MethodHandle" ∧ yX11_clauseHere.cls ≠ "java/lang/invoke/VarHandle" ∧ (parseMethodDescriptor yX11_clauseHere.desc).map (fun d => d.parameters.length) = some 0 := ⟨by decide +kernel, by decide +kernel, by decide +kernel⟩
set_option maxHeartbeats 4000000 in
set_option maxRecDepth 100000 in
theorem r_readsAll_0 (l : Launch) (D : va_G) (K : Nat → ClassId) (h0 : Nat) (m_tape : Nat) (m_sign : Nat) (m_length : Nat) (m_clause : Nat) (m_clauses : Nat) (m_read : Nat) (m_open : Nat) (m_stack : Nat) (m_word : Nat) (m_said : Nat) (m_goesTo : Nat) (m_hadBy : Nat) (m_wasSaid : Nat) (m_kept : Nat) (m_hasBy : Nat) (m_standsThen : Nat) (m_isFit : Nat) (m_cornerThen : Nat) (m_images : Nat) (m_imageForce : Nat) (m_imageX : Nat) (m_isMade : Nat) : mI (S := mU) l yX11_readsAll cX11_readsAll 2 .boolean ({ frames := 3, cells := 0, slots := 0, locals := 68 }) D K [(h0, .inr (11, [.ref m_tape, .int 0, .int 0, .ref m_sign, .ref m_length, .ref m_clause, .ref m_clauses, .ref m_read, .int 0, .int 0, .int 0, .int 0, .int 0, .int 0, .int 0, .ref m_open, .int 0, .ref m_stack, .int 0, .ref m_word, .ref m_said, .int (-1), .int 0, .ref m_goesTo, .ref m_hadBy, .ref m_wasSaid, .int 0, .ref m_kept, .ref m_hasBy, .ref m_standsThen, .ref m_isFit, .ref m_cornerThen, .long 0, .ref m_images, .ref m_imageForce, .ref m_imageX, .ref m_isMade])), (m_length, .inl (K 0, 7, .inl (fun _ => 0)))] [.ref h0] (fun r u => r = 0) (fun u => [(h0, .inr (11, [.ref m_tape, .int 0, .int 0, .ref m_sign, .ref m_length, .ref m_clause, .ref m_clauses, .ref m_read, .int 0, .int 1, .int 0, .int 0, .int 0, .int 0, .int 0, .ref m_open, .int 0, .ref m_stack, .int 0, .ref m_word, .ref m_said, .int (-1), .int 0, .ref m_goesTo, .ref m_hadBy, .ref m_wasSaid, .int 0, .ref m_kept, .ref m_hasBy, .ref m_standsThen, .ref m_isFit, .ref m_cornerThen, .long 0, .ref m_images, .ref m_imageForce, .ref m_imageX, .ref m_isMade]))]) := by
  refine m_enterI (by decide) (Nat.le_of_ble_eq_true rfl) ?_
  intro p e s m args below meth c A ls E hr G hl
  have E : mE p s m meth c cX11_readsAll args 2 RX11 D K A := E
  have hl : lv_has ls 2 [(0, .ref h0)] := hl
  obtain ⟨H, hH⟩ : ∃ H, H = s.heap := ⟨_, rfl⟩
  obtain ⟨locs, hlo⟩ : ∃ L : List Loc, L = [] := ⟨_, rfl⟩
  rw [← hH, ← hlo] at G
  rw [← hH, ← hlo]
  have G : mG D A s H locs [(h0, .inr (11, [.ref m_tape, .int 0, .int 0, .ref m_sign, .ref m_length, .ref m_clause, .ref m_clauses, .ref m_read, .int 0, .int 0, .int 0, .int 0, .int 0, .int 0, .int 0, .ref m_open, .int 0, .ref m_stack, .int 0, .ref m_word, .ref m_said, .int (-1), .int 0, .ref m_goesTo, .ref m_hadBy, .ref m_wasSaid, .int 0, .ref m_kept, .ref m_hasBy, .ref m_standsThen, .ref m_isFit, .ref m_cornerThen, .long 0, .ref m_images, .ref m_imageForce, .ref m_imageX, .ref m_isMade])), (m_length, .inl (K 0, 7, .inl (fun _ => 0)))] := G
  clear hH hlo
  refine lv_aload_n E.1 E.2.1 dX11_readsAll_0 rfl (lv_at hl 0 rfl) ?_
  refine m_get E G 0 (ci := 11) rfl 4 (C := RX11) (T := TX11) (N := 37) rfl (by decide) mw_fl_11_17 (v := .ref m_length) rfl dX11_readsAll_1 ?_
  refine lv_aload_n E.1 E.2.1 dX11_readsAll_4 rfl (lv_at hl 0 rfl) ?_
  refine m_get E G 0 (ci := 11) rfl 11 (C := RX11) (T := TX11) (N := 37) rfl (by decide) mw_fl_11_147 (v := .int 0) rfl dX11_readsAll_5 ?_
  refine lv_iconst (v := 0) E.1 E.2.1 dX11_readsAll_8 (by decide) ?_
  refine m_iast E G 1 rfl (by unfold vp_in; decide) dX11_readsAll_9 (fun H locs G => ?_)
  obtain ⟨f_1, ef_1⟩ : ∃ f_1 : Nat → Int32, f_1 = (upd (fun _ => 0) (0 : Int32).toNatClampNeg (0 : Int32)) := ⟨_, rfl⟩
  have G : mG D A s H locs [(h0, .inr (11, [.ref m_tape, .int 0, .int 0, .ref m_sign, .ref m_length, .ref m_clause, .ref m_clauses, .ref m_read, .int 0, .int 0, .int 0, .int 0, .int 0, .int 0, .int 0, .ref m_open, .int 0, .ref m_stack, .int 0, .ref m_word, .ref m_said, .int (-1), .int 0, .ref m_goesTo, .ref m_hadBy, .ref m_wasSaid, .int 0, .ref m_kept, .ref m_hasBy, .ref m_standsThen, .ref m_isFit, .ref m_cornerThen, .long 0, .ref m_images, .ref m_imageForce, .ref m_imageX, .ref m_isMade])), (m_length, .inl (K 0, 7, .inl f_1))] := by subst ef_1; exact G
  clear ef_1
  refine lv_aload_n E.1 E.2.1 dX11_readsAll_10 rfl (lv_at hl 0 rfl) ?_
  refine lv_iconst (v := 0) E.1 E.2.1 dX11_readsAll_11 (by decide) ?_
  refine m_put E G 0 (ci := 11) rfl 14 (C := RX11) (T := TX11) (N := 37) rfl (by decide) mw_fl_11_246 rfl rfl rfl (Nat.le_of_ble_eq_true rfl) dX11_readsAll_12 (fun H locs G => ?_)
  have G : mG D A s H locs [(h0, .inr (11, [.ref m_tape, .int 0, .int 0, .ref m_sign, .ref m_length, .ref m_clause, .ref m_clauses, .ref m_read, .int 0, .int 0, .int 0, .int 0, .int 0, .int 0, .int 0, .ref m_open, .int 0, .ref m_stack, .int 0, .ref m_word, .ref m_said, .int (-1), .int 0, .ref m_goesTo, .ref m_hadBy, .ref m_wasSaid, .int 0, .ref m_kept, .ref m_hasBy, .ref m_standsThen, .ref m_isFit, .ref m_cornerThen, .long 0, .ref m_images, .ref m_imageForce, .ref m_imageX, .ref m_isMade])), (m_length, .inl (K 0, 7, .inl f_1))] := G
  refine lv_aload_n E.1 E.2.1 dX11_readsAll_15 rfl (lv_at hl 0 rfl) ?_
  refine lv_iconst (v := 0) E.1 E.2.1 dX11_readsAll_16 (by decide) ?_
  refine m_put E G 0 (ci := 11) rfl 8 (C := RX11) (T := TX11) (N := 37) rfl (by decide) mw_fl_11_93 rfl rfl rfl (Nat.le_of_ble_eq_true rfl) dX11_readsAll_17 (fun H locs G => ?_)
  have G : mG D A s H locs [(h0, .inr (11, [.ref m_tape, .int 0, .int 0, .ref m_sign, .ref m_length, .ref m_clause, .ref m_clauses, .ref m_read, .int 0, .int 0, .int 0, .int 0, .int 0, .int 0, .int 0, .ref m_open, .int 0, .ref m_stack, .int 0, .ref m_word, .ref m_said, .int (-1), .int 0, .ref m_goesTo, .ref m_hadBy, .ref m_wasSaid, .int 0, .ref m_kept, .ref m_hasBy, .ref m_standsThen, .ref m_isFit, .ref m_cornerThen, .long 0, .ref m_images, .ref m_imageForce, .ref m_imageX, .ref m_isMade])), (m_length, .inl (K 0, 7, .inl f_1))] := G
  refine lv_aload_n E.1 E.2.1 dX11_readsAll_20 rfl (lv_at hl 0 rfl) ?_
  refine lv_iconst (v := 0) E.1 E.2.1 dX11_readsAll_21 (by decide) ?_
  refine m_put E G 0 (ci := 11) rfl 9 (C := RX11) (T := TX11) (N := 37) rfl (by decide) mw_fl_11_90 rfl rfl rfl (Nat.le_of_ble_eq_true rfl) dX11_readsAll_22 (fun H locs G => ?_)
  have G : mG D A s H locs [(h0, .inr (11, [.ref m_tape, .int 0, .int 0, .ref m_sign, .ref m_length, .ref m_clause, .ref m_clauses, .ref m_read, .int 0, .int 0, .int 0, .int 0, .int 0, .int 0, .int 0, .ref m_open, .int 0, .ref m_stack, .int 0, .ref m_word, .ref m_said, .int (-1), .int 0, .ref m_goesTo, .ref m_hadBy, .ref m_wasSaid, .int 0, .ref m_kept, .ref m_hasBy, .ref m_standsThen, .ref m_isFit, .ref m_cornerThen, .long 0, .ref m_images, .ref m_imageForce, .ref m_imageX, .ref m_isMade])), (m_length, .inl (K 0, 7, .inl f_1))] := G
  refine lv_aload_n E.1 E.2.1 dX11_readsAll_25 rfl (lv_at hl 0 rfl) ?_
  refine lv_iconst (v := 0) E.1 E.2.1 dX11_readsAll_26 (by decide) ?_
  refine m_put E G 0 (ci := 11) rfl 12 (C := RX11) (T := TX11) (N := 37) rfl (by decide) mw_fl_11_150 rfl rfl rfl (Nat.le_of_ble_eq_true rfl) dX11_readsAll_27 (fun H locs G => ?_)
  have G : mG D A s H locs [(h0, .inr (11, [.ref m_tape, .int 0, .int 0, .ref m_sign, .ref m_length, .ref m_clause, .ref m_clauses, .ref m_read, .int 0, .int 0, .int 0, .int 0, .int 0, .int 0, .int 0, .ref m_open, .int 0, .ref m_stack, .int 0, .ref m_word, .ref m_said, .int (-1), .int 0, .ref m_goesTo, .ref m_hadBy, .ref m_wasSaid, .int 0, .ref m_kept, .ref m_hasBy, .ref m_standsThen, .ref m_isFit, .ref m_cornerThen, .long 0, .ref m_images, .ref m_imageForce, .ref m_imageX, .ref m_isMade])), (m_length, .inl (K 0, 7, .inl f_1))] := G
  refine lv_aload_n E.1 E.2.1 dX11_readsAll_30 rfl (lv_at hl 0 rfl) ?_
  refine m_vi E G hl (r_clauseHere_0 l D K h0 m_tape m_sign m_length m_clause m_clauses m_read m_open m_stack m_word m_said m_goesTo m_hadBy m_wasSaid m_kept m_hasBy m_standsThen m_isFit m_cornerThen m_images m_imageForce m_imageX m_isMade) (wr := [(m_length, .inl (K 0, 7, .inl f_1))]) [0] [1] rfl rfl (by decide) (by decide) (by decide) 0 (ci := 11) rfl rfl rfl 0 rfl mw_code_X11_clauseHere mw_ini_11 mw_ml_11_255 mw_inst_X11_clauseHere mw_sel_X11_clauseHere hd_X11_clauseHere ⟨by decide, by decide⟩ rfl (Nat.le_of_ble_eq_true rfl) ⟨by decide, by decide⟩ dX11_readsAll_31 (fun r_3 u_2 H locs hp G => ?_)
  have G : mG D A s H locs [(m_length, .inl (K 0, 7, .inl f_1)), (h0, .inr (11, [.ref m_tape, .int 0, .int 0, .ref m_sign, .ref m_length, .ref m_clause, .ref m_clauses, .ref m_read, .int 0, .int 1, .int 0, .int 0, .int 0, .int 0, .int 0, .ref m_open, .int 0, .ref m_stack, .int 0, .ref m_word, .ref m_said, .int (-1), .int 0, .ref m_goesTo, .ref m_hadBy, .ref m_wasSaid, .int 0, .ref m_kept, .ref m_hasBy, .ref m_standsThen, .ref m_isFit, .ref m_cornerThen, .long 0, .ref m_images, .ref m_imageForce, .ref m_imageX, .ref m_isMade]))] := G
  subst hp
  refine lv_istore_n (lv' := [(1, .int 0), (0, .ref h0)]) E.1 E.2.1 dX11_readsAll_34 rfl hl (by decide) rfl (fun ls hl => ?_)
  refine lv_iload_n E.1 E.2.1 dX11_readsAll_35 rfl (lv_at hl 0 rfl) ?_
  refine lv_if_eq (tgt := 66) E.1 E.2.1 dX11_readsAll_36 (by decide) (fun _ => ?_) (fun h => absurd (by decide) h)
  refine lv_iload_n E.1 E.2.1 dX11_readsAll_66 rfl (lv_at hl 0 rfl) ?_
  refine lv_if_eq (tgt := 88) E.1 E.2.1 dX11_readsAll_67 (by decide) (fun _ => ?_) (fun h => absurd (by decide) h)
  refine lv_aload_n E.1 E.2.1 dX11_readsAll_88 rfl (lv_at hl 1 rfl) ?_
  refine lv_iconst (v := 0) E.1 E.2.1 dX11_readsAll_89 (by decide) ?_
  refine m_put E G 1 (ci := 11) rfl 1 (C := RX11) (T := TX11) (N := 37) rfl (by decide) mw_fl_11_83 rfl rfl rfl (Nat.le_of_ble_eq_true rfl) dX11_readsAll_90 (fun H locs G => ?_)
  have G : mG D A s H locs [(m_length, .inl (K 0, 7, .inl f_1)), (h0, .inr (11, [.ref m_tape, .int 0, .int 0, .ref m_sign, .ref m_length, .ref m_clause, .ref m_clauses, .ref m_read, .int 0, .int 1, .int 0, .int 0, .int 0, .int 0, .int 0, .ref m_open, .int 0, .ref m_stack, .int 0, .ref m_word, .ref m_said, .int (-1), .int 0, .ref m_goesTo, .ref m_hadBy, .ref m_wasSaid, .int 0, .ref m_kept, .ref m_hasBy, .ref m_standsThen, .ref m_isFit, .ref m_cornerThen, .long 0, .ref m_images, .ref m_imageForce, .ref m_imageX, .ref m_isMade]))] := G
  refine lv_aload_n E.1 E.2.1 dX11_readsAll_93 rfl (lv_at hl 1 rfl) ?_
  refine m_get E G 1 (ci := 11) rfl 9 (C := RX11) (T := TX11) (N := 37) rfl (by decide) mw_fl_11_90 (v := .int 1) rfl dX11_readsAll_94 ?_
  refine lv_if_ne (tgt := 104) E.1 E.2.1 dX11_readsAll_97 (by decide) (fun _ => ?_) (fun h => absurd h (by decide))
  refine lv_iconst (v := 0) E.1 E.2.1 dX11_readsAll_104 (by decide) ?_
  exact m_reti E G hr (by decide) (fun _ => 0, fun _ _ => 0, fun _ _ => none) rfl [1] (by decide) rfl (by decide) (by decide) dX11_readsAll_105
set_option maxHeartbeats 4000000 in
set_option maxRecDepth 100000 in
theorem r_readsAll_6 (l : Launch) (D : va_G) (K : Nat → ClassId) (h0 : Nat) (m_tape : Nat) (m_sign : Nat) (m_length : Nat) (m_clause : Nat) (m_clauses : Nat) (m_read : Nat) (m_open : Nat) (m_stack : Nat) (m_word : Nat) (m_said : Nat) (m_goesTo : Nat) (m_hadBy : Nat) (m_wasSaid : Nat) (m_kept : Nat) (m_hasBy : Nat) (m_standsThen : Nat) (m_isFit : Nat) (m_cornerThen : Nat) (m_images : Nat) (m_imageForce : Nat) (m_imageX : Nat) (m_isMade : Nat) : mI (S := mU) l yX11_readsAll cX11_readsAll 2 .boolean ({ frames := 4, cells := 0, slots := 0, locals := 88 }) D K [(h0, .inr (11, [.ref m_tape, .int 0, .int 0, .ref m_sign, .ref m_length, .ref m_clause, .ref m_clauses, .ref m_read, .int 0, .int 0, .int 0, .int 6, .int 0, .int 0, .int 0, .ref m_open, .int 0, .ref m_stack, .int 0, .ref m_word, .ref m_said, .int (-1), .int 0, .ref m_goesTo, .ref m_hadBy, .ref m_wasSaid, .int 0, .ref m_kept, .ref m_hasBy, .ref m_standsThen, .ref m_isFit, .ref m_cornerThen, .long 0, .ref m_images, .ref m_imageForce, .ref m_imageX, .ref m_isMade])), (m_length, .inl (K 0, 7, .inl (fun _ => 0)))] [.ref h0] (fun r u => r = 0) (fun u => [(h0, .inr (11, [.ref m_tape, .int 0, .int 0, .ref m_sign, .ref m_length, .ref m_clause, .ref m_clauses, .ref m_read, .int 0, .int 1, .int 0, .int 6, .int 0, .int 0, .int 0, .ref m_open, .int 0, .ref m_stack, .int 0, .ref m_word, .ref m_said, .int (-1), .int 0, .ref m_goesTo, .ref m_hadBy, .ref m_wasSaid, .int 0, .ref m_kept, .ref m_hasBy, .ref m_standsThen, .ref m_isFit, .ref m_cornerThen, .long 0, .ref m_images, .ref m_imageForce, .ref m_imageX, .ref m_isMade]))]) := by
  refine m_enterI (by decide) (Nat.le_of_ble_eq_true rfl) ?_
  intro p e s m args below meth c A ls E hr G hl
  have E : mE p s m meth c cX11_readsAll args 2 RX11 D K A := E
  have hl : lv_has ls 2 [(0, .ref h0)] := hl
  obtain ⟨H, hH⟩ : ∃ H, H = s.heap := ⟨_, rfl⟩
  obtain ⟨locs, hlo⟩ : ∃ L : List Loc, L = [] := ⟨_, rfl⟩
  rw [← hH, ← hlo] at G
  rw [← hH, ← hlo]
  have G : mG D A s H locs [(h0, .inr (11, [.ref m_tape, .int 0, .int 0, .ref m_sign, .ref m_length, .ref m_clause, .ref m_clauses, .ref m_read, .int 0, .int 0, .int 0, .int 6, .int 0, .int 0, .int 0, .ref m_open, .int 0, .ref m_stack, .int 0, .ref m_word, .ref m_said, .int (-1), .int 0, .ref m_goesTo, .ref m_hadBy, .ref m_wasSaid, .int 0, .ref m_kept, .ref m_hasBy, .ref m_standsThen, .ref m_isFit, .ref m_cornerThen, .long 0, .ref m_images, .ref m_imageForce, .ref m_imageX, .ref m_isMade])), (m_length, .inl (K 0, 7, .inl (fun _ => 0)))] := G
  clear hH hlo
  refine lv_aload_n E.1 E.2.1 dX11_readsAll_0 rfl (lv_at hl 0 rfl) ?_
  refine m_get E G 0 (ci := 11) rfl 4 (C := RX11) (T := TX11) (N := 37) rfl (by decide) mw_fl_11_17 (v := .ref m_length) rfl dX11_readsAll_1 ?_
  refine lv_aload_n E.1 E.2.1 dX11_readsAll_4 rfl (lv_at hl 0 rfl) ?_
  refine m_get E G 0 (ci := 11) rfl 11 (C := RX11) (T := TX11) (N := 37) rfl (by decide) mw_fl_11_147 (v := .int 6) rfl dX11_readsAll_5 ?_
  refine lv_iconst (v := 0) E.1 E.2.1 dX11_readsAll_8 (by decide) ?_
  refine m_iast E G 1 rfl (by unfold vp_in; decide) dX11_readsAll_9 (fun H locs G => ?_)
  obtain ⟨f_1, ef_1⟩ : ∃ f_1 : Nat → Int32, f_1 = (upd (fun _ => 0) (6 : Int32).toNatClampNeg (0 : Int32)) := ⟨_, rfl⟩
  have G : mG D A s H locs [(h0, .inr (11, [.ref m_tape, .int 0, .int 0, .ref m_sign, .ref m_length, .ref m_clause, .ref m_clauses, .ref m_read, .int 0, .int 0, .int 0, .int 6, .int 0, .int 0, .int 0, .ref m_open, .int 0, .ref m_stack, .int 0, .ref m_word, .ref m_said, .int (-1), .int 0, .ref m_goesTo, .ref m_hadBy, .ref m_wasSaid, .int 0, .ref m_kept, .ref m_hasBy, .ref m_standsThen, .ref m_isFit, .ref m_cornerThen, .long 0, .ref m_images, .ref m_imageForce, .ref m_imageX, .ref m_isMade])), (m_length, .inl (K 0, 7, .inl f_1))] := by subst ef_1; exact G
  clear ef_1
  refine lv_aload_n E.1 E.2.1 dX11_readsAll_10 rfl (lv_at hl 0 rfl) ?_
  refine lv_iconst (v := 0) E.1 E.2.1 dX11_readsAll_11 (by decide) ?_
  refine m_put E G 0 (ci := 11) rfl 14 (C := RX11) (T := TX11) (N := 37) rfl (by decide) mw_fl_11_246 rfl rfl rfl (Nat.le_of_ble_eq_true rfl) dX11_readsAll_12 (fun H locs G => ?_)
  have G : mG D A s H locs [(h0, .inr (11, [.ref m_tape, .int 0, .int 0, .ref m_sign, .ref m_length, .ref m_clause, .ref m_clauses, .ref m_read, .int 0, .int 0, .int 0, .int 6, .int 0, .int 0, .int 0, .ref m_open, .int 0, .ref m_stack, .int 0, .ref m_word, .ref m_said, .int (-1), .int 0, .ref m_goesTo, .ref m_hadBy, .ref m_wasSaid, .int 0, .ref m_kept, .ref m_hasBy, .ref m_standsThen, .ref m_isFit, .ref m_cornerThen, .long 0, .ref m_images, .ref m_imageForce, .ref m_imageX, .ref m_isMade])), (m_length, .inl (K 0, 7, .inl f_1))] := G
  refine lv_aload_n E.1 E.2.1 dX11_readsAll_15 rfl (lv_at hl 0 rfl) ?_
  refine lv_iconst (v := 0) E.1 E.2.1 dX11_readsAll_16 (by decide) ?_
  refine m_put E G 0 (ci := 11) rfl 8 (C := RX11) (T := TX11) (N := 37) rfl (by decide) mw_fl_11_93 rfl rfl rfl (Nat.le_of_ble_eq_true rfl) dX11_readsAll_17 (fun H locs G => ?_)
  have G : mG D A s H locs [(h0, .inr (11, [.ref m_tape, .int 0, .int 0, .ref m_sign, .ref m_length, .ref m_clause, .ref m_clauses, .ref m_read, .int 0, .int 0, .int 0, .int 6, .int 0, .int 0, .int 0, .ref m_open, .int 0, .ref m_stack, .int 0, .ref m_word, .ref m_said, .int (-1), .int 0, .ref m_goesTo, .ref m_hadBy, .ref m_wasSaid, .int 0, .ref m_kept, .ref m_hasBy, .ref m_standsThen, .ref m_isFit, .ref m_cornerThen, .long 0, .ref m_images, .ref m_imageForce, .ref m_imageX, .ref m_isMade])), (m_length, .inl (K 0, 7, .inl f_1))] := G
  refine lv_aload_n E.1 E.2.1 dX11_readsAll_20 rfl (lv_at hl 0 rfl) ?_
  refine lv_iconst (v := 0) E.1 E.2.1 dX11_readsAll_21 (by decide) ?_
  refine m_put E G 0 (ci := 11) rfl 9 (C := RX11) (T := TX11) (N := 37) rfl (by decide) mw_fl_11_90 rfl rfl rfl (Nat.le_of_ble_eq_true rfl) dX11_readsAll_22 (fun H locs G => ?_)
  have G : mG D A s H locs [(h0, .inr (11, [.ref m_tape, .int 0, .int 0, .ref m_sign, .ref m_length, .ref m_clause, .ref m_clauses, .ref m_read, .int 0, .int 0, .int 0, .int 6, .int 0, .int 0, .int 0, .ref m_open, .int 0, .ref m_stack, .int 0, .ref m_word, .ref m_said, .int (-1), .int 0, .ref m_goesTo, .ref m_hadBy, .ref m_wasSaid, .int 0, .ref m_kept, .ref m_hasBy, .ref m_standsThen, .ref m_isFit, .ref m_cornerThen, .long 0, .ref m_images, .ref m_imageForce, .ref m_imageX, .ref m_isMade])), (m_length, .inl (K 0, 7, .inl f_1))] := G
  refine lv_aload_n E.1 E.2.1 dX11_readsAll_25 rfl (lv_at hl 0 rfl) ?_
  refine lv_iconst (v := 0) E.1 E.2.1 dX11_readsAll_26 (by decide) ?_
  refine m_put E G 0 (ci := 11) rfl 12 (C := RX11) (T := TX11) (N := 37) rfl (by decide) mw_fl_11_150 rfl rfl rfl (Nat.le_of_ble_eq_true rfl) dX11_readsAll_27 (fun H locs G => ?_)
  have G : mG D A s H locs [(h0, .inr (11, [.ref m_tape, .int 0, .int 0, .ref m_sign, .ref m_length, .ref m_clause, .ref m_clauses, .ref m_read, .int 0, .int 0, .int 0, .int 6, .int 0, .int 0, .int 0, .ref m_open, .int 0, .ref m_stack, .int 0, .ref m_word, .ref m_said, .int (-1), .int 0, .ref m_goesTo, .ref m_hadBy, .ref m_wasSaid, .int 0, .ref m_kept, .ref m_hasBy, .ref m_standsThen, .ref m_isFit, .ref m_cornerThen, .long 0, .ref m_images, .ref m_imageForce, .ref m_imageX, .ref m_isMade])), (m_length, .inl (K 0, 7, .inl f_1))] := G
  refine lv_aload_n E.1 E.2.1 dX11_readsAll_30 rfl (lv_at hl 0 rfl) ?_
  refine m_vi E G hl (r_clauseHere_6 l D K h0 m_tape m_sign m_length m_clause m_clauses m_read m_open m_stack m_word m_said m_goesTo m_hadBy m_wasSaid m_kept m_hasBy m_standsThen m_isFit m_cornerThen m_images m_imageForce m_imageX m_isMade) (wr := [(m_length, .inl (K 0, 7, .inl f_1))]) [0] [1] rfl rfl (by decide) (by decide) (by decide) 0 (ci := 11) rfl rfl rfl 0 rfl mw_code_X11_clauseHere mw_ini_11 mw_ml_11_255 mw_inst_X11_clauseHere mw_sel_X11_clauseHere hd_X11_clauseHere ⟨by decide, by decide⟩ rfl (Nat.le_of_ble_eq_true rfl) ⟨by decide, by decide⟩ dX11_readsAll_31 (fun r_3 u_2 H locs hp G => ?_)
  have G : mG D A s H locs [(m_length, .inl (K 0, 7, .inl f_1)), (h0, .inr (11, [.ref m_tape, .int 0, .int 0, .ref m_sign, .ref m_length, .ref m_clause, .ref m_clauses, .ref m_read, .int 0, .int 1, .int 0, .int 6, .int 0, .int 0, .int 0, .ref m_open, .int 0, .ref m_stack, .int 0, .ref m_word, .ref m_said, .int (-1), .int 0, .ref m_goesTo, .ref m_hadBy, .ref m_wasSaid, .int 0, .ref m_kept, .ref m_hasBy, .ref m_standsThen, .ref m_isFit, .ref m_cornerThen, .long 0, .ref m_images, .ref m_imageForce, .ref m_imageX, .ref m_isMade]))] := G
  subst hp
  refine lv_istore_n (lv' := [(1, .int 0), (0, .ref h0)]) E.1 E.2.1 dX11_readsAll_34 rfl hl (by decide) rfl (fun ls hl => ?_)
  refine lv_iload_n E.1 E.2.1 dX11_readsAll_35 rfl (lv_at hl 0 rfl) ?_
  refine lv_if_eq (tgt := 66) E.1 E.2.1 dX11_readsAll_36 (by decide) (fun _ => ?_) (fun h => absurd (by decide) h)
  refine lv_iload_n E.1 E.2.1 dX11_readsAll_66 rfl (lv_at hl 0 rfl) ?_
  refine lv_if_eq (tgt := 88) E.1 E.2.1 dX11_readsAll_67 (by decide) (fun _ => ?_) (fun h => absurd (by decide) h)
  refine lv_aload_n E.1 E.2.1 dX11_readsAll_88 rfl (lv_at hl 1 rfl) ?_
  refine lv_iconst (v := 0) E.1 E.2.1 dX11_readsAll_89 (by decide) ?_
  refine m_put E G 1 (ci := 11) rfl 1 (C := RX11) (T := TX11) (N := 37) rfl (by decide) mw_fl_11_83 rfl rfl rfl (Nat.le_of_ble_eq_true rfl) dX11_readsAll_90 (fun H locs G => ?_)
  have G : mG D A s H locs [(m_length, .inl (K 0, 7, .inl f_1)), (h0, .inr (11, [.ref m_tape, .int 0, .int 0, .ref m_sign, .ref m_length, .ref m_clause, .ref m_clauses, .ref m_read, .int 0, .int 1, .int 0, .int 6, .int 0, .int 0, .int 0, .ref m_open, .int 0, .ref m_stack, .int 0, .ref m_word, .ref m_said, .int (-1), .int 0, .ref m_goesTo, .ref m_hadBy, .ref m_wasSaid, .int 0, .ref m_kept, .ref m_hasBy, .ref m_standsThen, .ref m_isFit, .ref m_cornerThen, .long 0, .ref m_images, .ref m_imageForce, .ref m_imageX, .ref m_isMade]))] := G
  refine lv_aload_n E.1 E.2.1 dX11_readsAll_93 rfl (lv_at hl 1 rfl) ?_
  refine m_get E G 1 (ci := 11) rfl 9 (C := RX11) (T := TX11) (N := 37) rfl (by decide) mw_fl_11_90 (v := .int 1) rfl dX11_readsAll_94 ?_
  refine lv_if_ne (tgt := 104) E.1 E.2.1 dX11_readsAll_97 (by decide) (fun _ => ?_) (fun h => absurd h (by decide))
  refine lv_iconst (v := 0) E.1 E.2.1 dX11_readsAll_104 (by decide) ?_
  exact m_reti E G hr (by decide) (fun _ => 0, fun _ _ => 0, fun _ _ => none) rfl [1] (by decide) rfl (by decide) (by decide) dX11_readsAll_105
