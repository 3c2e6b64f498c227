theorem mw_cL_11_244 : (Cond.constantLong RX11 244 (26479) : Cond) ∈ cw := cw_of (List.mem_append_right _ (List.mem_append_right _ (List.mem_append_right _ (List.mem_append_right _ (List.mem_append_right _ (List.mem_append_right _ (List.mem_append_left _ (List.mem_of_getElem? (i := 24) (by decide +kernel))))))))) (by decide +kernel)
theorem mw_code_X11_fails : (Cond.code yX11_fails cX11_fails 3 (some .boolean) : Cond) ∈ cw := cw_of (List.mem_append_right _ (List.mem_append_right _ (List.mem_append_right _ (List.mem_append_right _ (List.mem_append_right _ (List.mem_append_right _ (List.mem_append_left _ (List.mem_of_getElem? (i := 28) rfl)))))))) (by decide +kernel)
theorem mw_code_X11_isTownWord : (Cond.code yX11_isTownWord cX11_isTownWord 1 (some .boolean) : Cond) ∈ cw := cw_of (List.mem_append_right _ (List.mem_append_right _ (List.mem_append_right _ (List.mem_append_right _ (List.mem_append_right _ (List.mem_append_right _ (List.mem_append_left _ (List.mem_of_getElem? (i := 11) rfl)))))))) (by decide +kernel)
theorem mw_fl_11_147 : (Cond.fieldLink RX11 147 "LureTownModel" "text" "I" : Cond) ∈ cw := cw_of (List.mem_append_right _ (List.mem_append_right _ (List.mem_append_right _ (List.mem_append_right _ (List.mem_append_right _ (List.mem_append_left _ (List.mem_of_getElem? (i := 118) (by decide +kernel)))))))) (by decide +kernel)
theorem mw_inst_X11_fails : (Cond.instanceMethod yX11_fails : Cond) ∈ cw := cw_of (List.mem_append_right _ (List.mem_append_right _ (List.mem_append_right _ (List.mem_append_right _ (List.mem_append_right _ (List.mem_append_right _ (List.mem_append_left _ (List.mem_of_getElem? (i := 27) (by decide +kernel))))))))) (by decide +kernel)
theorem mw_inst_X11_isTownWord : (Cond.instanceMethod yX11_isTownWord : Cond) ∈ cw := cw_of (List.mem_append_right _ (List.mem_append_right _ (List.mem_append_right _ (List.mem_append_right _ (List.mem_append_right _ (List.mem_append_right _ (List.mem_append_left _ (List.mem_of_getElem? (i := 10) (by decide +kernel))))))))) (by decide +kernel)
theorem mw_ml_11_114 : (Cond.methodLink RX11 114 yX11_fails : Cond) ∈ cw := cw_of (List.mem_append_right _ (List.mem_append_right _ (List.mem_append_right _ (List.mem_append_right _ (List.mem_append_right _ (List.mem_append_right _ (List.mem_append_left _ (List.mem_of_getElem? (i := 25) (by decide +kernel))))))))) (by decide +kernel)
theorem mw_ml_11_241 : (Cond.methodLink RX11 241 yX11_isTownWord : Cond) ∈ cw := cw_of (List.mem_append_right _ (List.mem_append_right _ (List.mem_append_right _ (List.mem_append_right _ (List.mem_append_right _ (List.mem_append_right _ (List.mem_append_left _ (List.mem_of_getElem? (i := 8) (by decide +kernel))))))))) (by decide +kernel)
theorem mw_sel_X11_fails : (Cond.selects RX11 yX11_fails yX11_fails : Cond) ∈ cw := cw_of (List.mem_append_left _ (List.mem_of_getElem? (i := 54) (by decide +kernel))) (by decide +kernel)
theorem mw_sel_X11_isTownWord : (Cond.selects RX11 yX11_isTownWord yX11_isTownWord : Cond) ∈ cw := cw_of (List.mem_append_left _ (List.mem_of_getElem? (i := 51) (by decide +kernel))) (by decide +kernel)
theorem dX11_clauseHere_0 : decode cX11_clauseHere 0 = .ok (.aload_n 0, 1) := by decide +kernel
theorem dX11_clauseHere_1 : decode cX11_clauseHere 1 = .ok (.invokevirtual 96, 3) := by decide +kernel
theorem dX11_clauseHere_4 : decode cX11_clauseHere 4 = .ok (.pop, 1) := by decide +kernel
theorem dX11_clauseHere_5 : decode cX11_clauseHere 5 = .ok (.aload_n 0, 1) := by decide +kernel
theorem dX11_clauseHere_6 : decode cX11_clauseHere 6 = .ok (.getfield 93, 3) := by decide +kernel
theorem dX11_clauseHere_9 : decode cX11_clauseHere 9 = .ok (.istore_n 1, 1) := by decide +kernel
theorem dX11_clauseHere_10 : decode cX11_clauseHere 10 = .ok (.aload_n 0, 1) := by decide +kernel
theorem dX11_clauseHere_11 : decode cX11_clauseHere 11 = .ok (.getfield 147, 3) := by decide +kernel
theorem dX11_clauseHere_14 : decode cX11_clauseHere 14 = .ok (.bipush 6, 2) := by decide +kernel
theorem dX11_clauseHere_16 : decode cX11_clauseHere 16 = .ok (.if_icmp .ne 7, 3) := by decide +kernel
theorem dX11_clauseHere_19 : decode cX11_clauseHere 19 = .ok (.iconst 1, 1) := by decide +kernel
theorem dX11_clauseHere_20 : decode cX11_clauseHere 20 = .ok (.goto 4, 3) := by decide +kernel
theorem dX11_clauseHere_23 : decode cX11_clauseHere 23 = .ok (.iconst 0, 1) := by decide +kernel
theorem dX11_clauseHere_24 : decode cX11_clauseHere 24 = .ok (.istore_n 2, 1) := by decide +kernel
theorem dX11_clauseHere_25 : decode cX11_clauseHere 25 = .ok (.iload_n 2, 1) := by decide +kernel
theorem dX11_clauseHere_26 : decode cX11_clauseHere 26 = .ok (.ifCond .eq 13, 3) := by decide +kernel
theorem dX11_clauseHere_29 : decode cX11_clauseHere 29 = .ok (.aload_n 0, 1) := by decide +kernel
theorem dX11_clauseHere_30 : decode cX11_clauseHere 30 = .ok (.invokevirtual 241, 3) := by decide +kernel
theorem dX11_clauseHere_33 : decode cX11_clauseHere 33 = .ok (.ifCond .ne 23, 3) := by decide +kernel
theorem dX11_clauseHere_36 : decode cX11_clauseHere 36 = .ok (.goto 13, 3) := by decide +kernel
theorem dX11_clauseHere_39 : decode cX11_clauseHere 39 = .ok (.aload_n 0, 1) := by decide +kernel
theorem dX11_clauseHere_40 : decode cX11_clauseHere 40 = .ok (.ldc2_w 244, 3) := by decide +kernel
theorem dX11_clauseHere_43 : decode cX11_clauseHere 43 = .ok (.invokevirtual 104, 3) := by decide +kernel
theorem dX11_clauseHere_46 : decode cX11_clauseHere 46 = .ok (.ifCond .ne 10, 3) := by decide +kernel
theorem dX11_clauseHere_49 : decode cX11_clauseHere 49 = .ok (.aload_n 0, 1) := by decide +kernel
theorem dX11_clauseHere_50 : decode cX11_clauseHere 50 = .ok (.iconst 0, 1) := by decide +kernel
theorem dX11_clauseHere_51 : decode cX11_clauseHere 51 = .ok (.iload_n 1, 1) := by decide +kernel
theorem dX11_clauseHere_52 : decode cX11_clauseHere 52 = .ok (.invokevirtual 114, 3) := by decide +kernel
theorem dX11_clauseHere_55 : decode cX11_clauseHere 55 = .ok (.ireturn, 1) := by decide +kernel
theorem hd_X11_fails : yX11_fails.cls ≠ "java/lang/invoke/MethodHandle" ∧ yX11_fails.cls ≠ "java/lang/invoke/VarHandle" ∧ (parseMethodDescriptor yX11_fails.desc).map (fun d => d.parameters.length) = some 2 := ⟨by decide +kernel, by decide +kernel, by decide +kernel⟩
theorem hd_X11_isTownWord : yX11_isTownWord.cls ≠ "java/lang/invoke/MethodHandle" ∧ yX11_isTownWord.cls ≠ "java/lang/invoke/VarHandle" ∧ (parseMethodDescriptor yX11_isTownWord.desc).map (fun d => d.parameters.length) = some 0 := ⟨by decide +kernel, by decide +kernel, by decide +kernel⟩
set_option maxHeartbeats 4000000 in
set_option maxRecDepth 100000 in
theorem r_clauseHere_0 (l : Launch) (D : va_G) (K : Nat → ClassId) (h0 : Nat) (m_tape : Nat) (m_sign : Nat) (m_length : Nat) (m_clause : Nat) (m_clauses : Nat) (m_read : Nat) (m_open : Nat) (m_stack : Nat) (m_word : Nat) (m_said : Nat) (m_goesTo : Nat) (m_hadBy : Nat) (m_wasSaid : Nat) (m_kept : Nat) (m_hasBy : Nat) (m_standsThen : Nat) (m_isFit : Nat) (m_cornerThen : Nat) (m_images : Nat) (m_imageForce : Nat) (m_imageX : Nat) (m_isMade : Nat) : mI (S := mU) l yX11_clauseHere cX11_clauseHere 3 .boolean ({ frames := 2, cells := 0, slots := 0, locals := 46 }) D K [(h0, .inr (11, [.ref m_tape, .int 0, .int 0, .ref m_sign, .ref m_length, .ref m_clause, .ref m_clauses, .ref m_read, .int 0, .int 0, .int 0, .int 0, .int 0, .int 0, .int 0, .ref m_open, .int 0, .ref m_stack, .int 0, .ref m_word, .ref m_said, .int (-1), .int 0, .ref m_goesTo, .ref m_hadBy, .ref m_wasSaid, .int 0, .ref m_kept, .ref m_hasBy, .ref m_standsThen, .ref m_isFit, .ref m_cornerThen, .long 0, .ref m_images, .ref m_imageForce, .ref m_imageX, .ref m_isMade]))] [.ref h0] (fun r u => r = 0) (fun u => [(h0, .inr (11, [.ref m_tape, .int 0, .int 0, .ref m_sign, .ref m_length, .ref m_clause, .ref m_clauses, .ref m_read, .int 0, .int 1, .int 0, .int 0, .int 0, .int 0, .int 0, .ref m_open, .int 0, .ref m_stack, .int 0, .ref m_word, .ref m_said, .int (-1), .int 0, .ref m_goesTo, .ref m_hadBy, .ref m_wasSaid, .int 0, .ref m_kept, .ref m_hasBy, .ref m_standsThen, .ref m_isFit, .ref m_cornerThen, .long 0, .ref m_images, .ref m_imageForce, .ref m_imageX, .ref m_isMade]))]) := by
  refine m_enterI (by decide) (Nat.le_of_ble_eq_true rfl) ?_
  intro p e s m args below meth c A ls E hr G hl
  have E : mE p s m meth c cX11_clauseHere args 3 RX11 D K A := E
  have hl : lv_has ls 3 [(0, .ref h0)] := hl
  obtain ⟨H, hH⟩ : ∃ H, H = s.heap := ⟨_, rfl⟩
  obtain ⟨locs, hlo⟩ : ∃ L : List Loc, L = [] := ⟨_, rfl⟩
  rw [← hH, ← hlo] at G
  rw [← hH, ← hlo]
  have G : mG D A s H locs [(h0, .inr (11, [.ref m_tape, .int 0, .int 0, .ref m_sign, .ref m_length, .ref m_clause, .ref m_clauses, .ref m_read, .int 0, .int 0, .int 0, .int 0, .int 0, .int 0, .int 0, .ref m_open, .int 0, .ref m_stack, .int 0, .ref m_word, .ref m_said, .int (-1), .int 0, .ref m_goesTo, .ref m_hadBy, .ref m_wasSaid, .int 0, .ref m_kept, .ref m_hasBy, .ref m_standsThen, .ref m_isFit, .ref m_cornerThen, .long 0, .ref m_images, .ref m_imageForce, .ref m_imageX, .ref m_isMade]))] := G
  clear hH hlo
  refine lv_aload_n E.1 E.2.1 dX11_clauseHere_0 rfl (lv_at hl 0 rfl) ?_
  refine m_vi E G hl (r_see l D K h0 m_tape m_sign m_length m_clause m_clauses m_read 0 m_open m_stack m_word m_said m_goesTo m_hadBy m_wasSaid m_kept m_hasBy m_standsThen m_isFit m_cornerThen m_images m_imageForce m_imageX m_isMade) (wr := []) [0] [] rfl rfl (by decide) (by decide) (by decide) 0 (ci := 11) rfl rfl rfl 0 rfl mw_code_X11_see mw_ini_11 mw_ml_11_96 mw_inst_X11_see mw_sel_X11_see hd_X11_see ⟨by decide, by decide⟩ rfl (Nat.le_of_ble_eq_true rfl) ⟨by decide, by decide⟩ dX11_clauseHere_1 (fun r_2 u_1 H locs hp G => ?_)
  have G : mG D A s H locs [(h0, .inr (11, [.ref m_tape, .int 0, .int 0, .ref m_sign, .ref m_length, .ref m_clause, .ref m_clauses, .ref m_read, .int 0, .int 0, .int 0, .int 0, .int 0, .int 0, .int 0, .ref m_open, .int 0, .ref m_stack, .int 0, .ref m_word, .ref m_said, .int (-1), .int 0, .ref m_goesTo, .ref m_hadBy, .ref m_wasSaid, .int 0, .ref m_kept, .ref m_hasBy, .ref m_standsThen, .ref m_isFit, .ref m_cornerThen, .long 0, .ref m_images, .ref m_imageForce, .ref m_imageX, .ref m_isMade]))] := G
  subst hp
  refine lv_pop E.1 E.2.1 dX11_clauseHere_4 rfl ?_
  refine lv_aload_n E.1 E.2.1 dX11_clauseHere_5 rfl (lv_at hl 0 rfl) ?_
  refine m_get E G 0 (ci := 11) rfl 8 (C := RX11) (T := TX11) (N := 37) rfl (by decide) mw_fl_11_93 (v := .int 0) rfl dX11_clauseHere_6 ?_
  refine lv_istore_n (lv' := [(1, .int 0), (0, .ref h0)]) E.1 E.2.1 dX11_clauseHere_9 rfl hl (by decide) rfl (fun ls hl => ?_)
  refine lv_aload_n E.1 E.2.1 dX11_clauseHere_10 rfl (lv_at hl 1 rfl) ?_
  refine m_get E G 0 (ci := 11) rfl 11 (C := RX11) (T := TX11) (N := 37) rfl (by decide) mw_fl_11_147 (v := .int 0) rfl dX11_clauseHere_11 ?_
  refine lv_bipush (v := 6) E.1 E.2.1 dX11_clauseHere_14 (by decide) ?_
  refine lv_icmp_ne (tgt := 23) E.1 E.2.1 dX11_clauseHere_16 (by decide) (fun _ => ?_) (fun h => absurd h (by decide))
  refine lv_iconst (v := 0) E.1 E.2.1 dX11_clauseHere_23 (by decide) ?_
  refine lv_istore_n (lv' := [(2, .int 0), (1, .int 0), (0, .ref h0)]) E.1 E.2.1 dX11_clauseHere_24 rfl hl (by decide) rfl (fun ls hl => ?_)
  refine lv_iload_n E.1 E.2.1 dX11_clauseHere_25 rfl (lv_at hl 0 rfl) ?_
  refine lv_if_eq (tgt := 39) E.1 E.2.1 dX11_clauseHere_26 (by decide) (fun _ => ?_) (fun h => absurd (by decide) h)
  refine lv_aload_n E.1 E.2.1 dX11_clauseHere_39 rfl (lv_at hl 2 rfl) ?_
  refine lv_ldc2 (v := 26479) E.1 E.2.1 E.2.2.2.1 (E.2.2.2.2.1 _ mw_cL_11_244) dX11_clauseHere_40 ?_
  refine m_vi E G hl (r_isWord l D K h0 m_tape m_sign m_length m_clause m_clauses m_read 0 m_open m_stack m_word m_said m_goesTo m_hadBy m_wasSaid m_kept m_hasBy m_standsThen m_isFit m_cornerThen m_images m_imageForce m_imageX m_isMade 26479) (wr := []) [0] [] rfl rfl (by decide) (by decide) (by decide) 0 (ci := 11) rfl rfl rfl 1 rfl mw_code_X11_isWord mw_ini_11 mw_ml_11_104 mw_inst_X11_isWord mw_sel_X11_isWord hd_X11_isWord ⟨by decide, by decide⟩ rfl (Nat.le_of_ble_eq_true rfl) ⟨by decide, by decide⟩ dX11_clauseHere_43 (fun r_4 u_3 H locs hp G => ?_)
  have G : mG D A s H locs [(h0, .inr (11, [.ref m_tape, .int 0, .int 0, .ref m_sign, .ref m_length, .ref m_clause, .ref m_clauses, .ref m_read, .int 0, .int 0, .int 0, .int 0, .int 0, .int 0, .int 0, .ref m_open, .int 0, .ref m_stack, .int 0, .ref m_word, .ref m_said, .int (-1), .int 0, .ref m_goesTo, .ref m_hadBy, .ref m_wasSaid, .int 0, .ref m_kept, .ref m_hasBy, .ref m_standsThen, .ref m_isFit, .ref m_cornerThen, .long 0, .ref m_images, .ref m_imageForce, .ref m_imageX, .ref m_isMade]))] := G
  subst hp
  refine lv_if_ne (tgt := 56) E.1 E.2.1 dX11_clauseHere_46 (by decide) (fun h => absurd (by decide) h) (fun _ => ?_)
  refine lv_aload_n E.1 E.2.1 dX11_clauseHere_49 rfl (lv_at hl 2 rfl) ?_
  refine lv_iconst (v := 0) E.1 E.2.1 dX11_clauseHere_50 (by decide) ?_
  refine lv_iload_n E.1 E.2.1 dX11_clauseHere_51 rfl (lv_at hl 1 rfl) ?_
  refine m_vi E G hl (r_fails l D K h0 m_tape m_sign m_length m_clause m_clauses m_read 0 m_open m_stack m_word m_said m_goesTo m_hadBy m_wasSaid m_kept m_hasBy m_standsThen m_isFit m_cornerThen m_images m_imageForce m_imageX m_isMade) (wr := []) [0] [] rfl rfl (by decide) (by decide) (by decide) 0 (ci := 11) rfl rfl rfl 2 rfl mw_code_X11_fails mw_ini_11 mw_ml_11_114 mw_inst_X11_fails mw_sel_X11_fails hd_X11_fails ⟨by decide, by decide⟩ rfl (Nat.le_of_ble_eq_true rfl) ⟨by decide, by decide⟩ dX11_clauseHere_52 (fun r_6 u_5 H locs hp G => ?_)
  have G : mG D A s H locs [(h0, .inr (11, [.ref m_tape, .int 0, .int 0, .ref m_sign, .ref m_length, .ref m_clause, .ref m_clauses, .ref m_read, .int 0, .int 1, .int 0, .int 0, .int 0, .int 0, .int 0, .ref m_open, .int 0, .ref m_stack, .int 0, .ref m_word, .ref m_said, .int (-1), .int 0, .ref m_goesTo, .ref m_hadBy, .ref m_wasSaid, .int 0, .ref m_kept, .ref m_hasBy, .ref m_standsThen, .ref m_isFit, .ref m_cornerThen, .long 0, .ref m_images, .ref m_imageForce, .ref m_imageX, .ref m_isMade]))] := G
  subst hp
  exact m_reti E G hr (by decide) (fun _ => 0, fun _ _ => 0, fun _ _ => none) rfl [0] (by decide) rfl (by decide) (by decide) dX11_clauseHere_55
set_option maxHeartbeats 4000000 in
set_option maxRecDepth 100000 in
theorem r_clauseHere_6 (l : Launch) (D : va_G) (K : Nat → ClassId) (h0 : Nat) (m_tape : Nat) (m_sign : Nat) (m_length : Nat) (m_clause : Nat) (m_clauses : Nat) (m_read : Nat) (m_open : Nat) (m_stack : Nat) (m_word : Nat) (m_said : Nat) (m_goesTo : Nat) (m_hadBy : Nat) (m_wasSaid : Nat) (m_kept : Nat) (m_hasBy : Nat) (m_standsThen : Nat) (m_isFit : Nat) (m_cornerThen : Nat) (m_images : Nat) (m_imageForce : Nat) (m_imageX : Nat) (m_isMade : Nat) : mI (S := mU) l yX11_clauseHere cX11_clauseHere 3 .boolean ({ frames := 3, cells := 0, slots := 0, locals := 66 }) D K [(h0, .inr (11, [.ref m_tape, .int 0, .int 0, .ref m_sign, .ref m_length, .ref m_clause, .ref m_clauses, .ref m_read, .int 0, .int 0, .int 0, .int 6, .int 0, .int 0, .int 0, .ref m_open, .int 0, .ref m_stack, .int 0, .ref m_word, .ref m_said, .int (-1), .int 0, .ref m_goesTo, .ref m_hadBy, .ref m_wasSaid, .int 0, .ref m_kept, .ref m_hasBy, .ref m_standsThen, .ref m_isFit, .ref m_cornerThen, .long 0, .ref m_images, .ref m_imageForce, .ref m_imageX, .ref m_isMade]))] [.ref h0] (fun r u => r = 0) (fun u => [(h0, .inr (11, [.ref m_tape, .int 0, .int 0, .ref m_sign, .ref m_length, .ref m_clause, .ref m_clauses, .ref m_read, .int 0, .int 1, .int 0, .int 6, .int 0, .int 0, .int 0, .ref m_open, .int 0, .ref m_stack, .int 0, .ref m_word, .ref m_said, .int (-1), .int 0, .ref m_goesTo, .ref m_hadBy, .ref m_wasSaid, .int 0, .ref m_kept, .ref m_hasBy, .ref m_standsThen, .ref m_isFit, .ref m_cornerThen, .long 0, .ref m_images, .ref m_imageForce, .ref m_imageX, .ref m_isMade]))]) := by
  refine m_enterI (by decide) (Nat.le_of_ble_eq_true rfl) ?_
  intro p e s m args below meth c A ls E hr G hl
  have E : mE p s m meth c cX11_clauseHere args 3 RX11 D K A := E
  have hl : lv_has ls 3 [(0, .ref h0)] := hl
  obtain ⟨H, hH⟩ : ∃ H, H = s.heap := ⟨_, rfl⟩
  obtain ⟨locs, hlo⟩ : ∃ L : List Loc, L = [] := ⟨_, rfl⟩
  rw [← hH, ← hlo] at G
  rw [← hH, ← hlo]
  have G : mG D A s H locs [(h0, .inr (11, [.ref m_tape, .int 0, .int 0, .ref m_sign, .ref m_length, .ref m_clause, .ref m_clauses, .ref m_read, .int 0, .int 0, .int 0, .int 6, .int 0, .int 0, .int 0, .ref m_open, .int 0, .ref m_stack, .int 0, .ref m_word, .ref m_said, .int (-1), .int 0, .ref m_goesTo, .ref m_hadBy, .ref m_wasSaid, .int 0, .ref m_kept, .ref m_hasBy, .ref m_standsThen, .ref m_isFit, .ref m_cornerThen, .long 0, .ref m_images, .ref m_imageForce, .ref m_imageX, .ref m_isMade]))] := G
  clear hH hlo
  refine lv_aload_n E.1 E.2.1 dX11_clauseHere_0 rfl (lv_at hl 0 rfl) ?_
  refine m_vi E G hl (r_see l D K h0 m_tape m_sign m_length m_clause m_clauses m_read 6 m_open m_stack m_word m_said m_goesTo m_hadBy m_wasSaid m_kept m_hasBy m_standsThen m_isFit m_cornerThen m_images m_imageForce m_imageX m_isMade) (wr := []) [0] [] rfl rfl (by decide) (by decide) (by decide) 0 (ci := 11) rfl rfl rfl 0 rfl mw_code_X11_see mw_ini_11 mw_ml_11_96 mw_inst_X11_see mw_sel_X11_see hd_X11_see ⟨by decide, by decide⟩ rfl (Nat.le_of_ble_eq_true rfl) ⟨by decide, by decide⟩ dX11_clauseHere_1 (fun r_2 u_1 H locs hp G => ?_)
  have G : mG D A s H locs [(h0, .inr (11, [.ref m_tape, .int 0, .int 0, .ref m_sign, .ref m_length, .ref m_clause, .ref m_clauses, .ref m_read, .int 0, .int 0, .int 0, .int 6, .int 0, .int 0, .int 0, .ref m_open, .int 0, .ref m_stack, .int 0, .ref m_word, .ref m_said, .int (-1), .int 0, .ref m_goesTo, .ref m_hadBy, .ref m_wasSaid, .int 0, .ref m_kept, .ref m_hasBy, .ref m_standsThen, .ref m_isFit, .ref m_cornerThen, .long 0, .ref m_images, .ref m_imageForce, .ref m_imageX, .ref m_isMade]))] := G
  subst hp
  refine lv_pop E.1 E.2.1 dX11_clauseHere_4 rfl ?_
  refine lv_aload_n E.1 E.2.1 dX11_clauseHere_5 rfl (lv_at hl 0 rfl) ?_
  refine m_get E G 0 (ci := 11) rfl 8 (C := RX11) (T := TX11) (N := 37) rfl (by decide) mw_fl_11_93 (v := .int 0) rfl dX11_clauseHere_6 ?_
  refine lv_istore_n (lv' := [(1, .int 0), (0, .ref h0)]) E.1 E.2.1 dX11_clauseHere_9 rfl hl (by decide) rfl (fun ls hl => ?_)
  refine lv_aload_n E.1 E.2.1 dX11_clauseHere_10 rfl (lv_at hl 1 rfl) ?_
  refine m_get E G 0 (ci := 11) rfl 11 (C := RX11) (T := TX11) (N := 37) rfl (by decide) mw_fl_11_147 (v := .int 6) rfl dX11_clauseHere_11 ?_
  refine lv_bipush (v := 6) E.1 E.2.1 dX11_clauseHere_14 (by decide) ?_
  refine lv_icmp_ne (tgt := 23) E.1 E.2.1 dX11_clauseHere_16 (by decide) (fun h => absurd (by decide) h) (fun _ => ?_)
  refine lv_iconst (v := 1) E.1 E.2.1 dX11_clauseHere_19 (by decide) ?_
  refine lv_goto (tgt := 24) E.1 E.2.1 dX11_clauseHere_20 (by decide) ?_
  refine lv_istore_n (lv' := [(2, .int 1), (1, .int 0), (0, .ref h0)]) E.1 E.2.1 dX11_clauseHere_24 rfl hl (by decide) rfl (fun ls hl => ?_)
  refine lv_iload_n E.1 E.2.1 dX11_clauseHere_25 rfl (lv_at hl 0 rfl) ?_
  refine lv_if_eq (tgt := 39) E.1 E.2.1 dX11_clauseHere_26 (by decide) (fun h => absurd h (by decide)) (fun _ => ?_)
  refine lv_aload_n E.1 E.2.1 dX11_clauseHere_29 rfl (lv_at hl 2 rfl) ?_
  refine m_vi E G hl (r_isTownWord l D K h0 m_tape m_sign m_length m_clause m_clauses m_read 6 m_open m_stack m_word m_said m_goesTo m_hadBy m_wasSaid m_kept m_hasBy m_standsThen m_isFit m_cornerThen m_images m_imageForce m_imageX m_isMade) (wr := []) [0] [] rfl rfl (by decide) (by decide) (by decide) 0 (ci := 11) rfl rfl rfl 0 rfl mw_code_X11_isTownWord mw_ini_11 mw_ml_11_241 mw_inst_X11_isTownWord mw_sel_X11_isTownWord hd_X11_isTownWord ⟨by decide, by decide⟩ rfl (Nat.le_of_ble_eq_true rfl) ⟨by decide, by decide⟩ dX11_clauseHere_30 (fun r_4 u_3 H locs hp G => ?_)
  have G : mG D A s H locs [(h0, .inr (11, [.ref m_tape, .int 0, .int 0, .ref m_sign, .ref m_length, .ref m_clause, .ref m_clauses, .ref m_read, .int 0, .int 0, .int 0, .int 6, .int 0, .int 0, .int 0, .ref m_open, .int 0, .ref m_stack, .int 0, .ref m_word, .ref m_said, .int (-1), .int 0, .ref m_goesTo, .ref m_hadBy, .ref m_wasSaid, .int 0, .ref m_kept, .ref m_hasBy, .ref m_standsThen, .ref m_isFit, .ref m_cornerThen, .long 0, .ref m_images, .ref m_imageForce, .ref m_imageX, .ref m_isMade]))] := G
  subst hp
  refine lv_if_ne (tgt := 56) E.1 E.2.1 dX11_clauseHere_33 (by decide) (fun h => absurd (by decide) h) (fun _ => ?_)
  refine lv_goto (tgt := 49) E.1 E.2.1 dX11_clauseHere_36 (by decide) ?_
  refine lv_aload_n E.1 E.2.1 dX11_clauseHere_49 rfl (lv_at hl 2 rfl) ?_
  refine lv_iconst (v := 0) E.1 E.2.1 dX11_clauseHere_50 (by decide) ?_
  refine lv_iload_n E.1 E.2.1 dX11_clauseHere_51 rfl (lv_at hl 1 rfl) ?_
  refine m_vi E G hl (r_fails l D K h0 m_tape m_sign m_length m_clause m_clauses m_read 6 m_open m_stack m_word m_said m_goesTo m_hadBy m_wasSaid m_kept m_hasBy m_standsThen m_isFit m_cornerThen m_images m_imageForce m_imageX m_isMade) (wr := []) [0] [] rfl rfl (by decide) (by decide) (by decide) 0 (ci := 11) rfl rfl rfl 2 rfl mw_code_X11_fails mw_ini_11 mw_ml_11_114 mw_inst_X11_fails mw_sel_X11_fails hd_X11_fails ⟨by decide, by decide⟩ rfl (Nat.le_of_ble_eq_true rfl) ⟨by decide, by decide⟩ dX11_clauseHere_52 (fun r_6 u_5 H locs hp G => ?_)
  have G : mG D A s H locs [(h0, .inr (11, [.ref m_tape, .int 0, .int 0, .ref m_sign, .ref m_length, .ref m_clause, .ref m_clauses, .ref m_read, .int 0, .int 1, .int 0, .int 6, .int 0, .int 0, .int 0, .ref m_open, .int 0, .ref m_stack, .int 0, .ref m_word, .ref m_said, .int (-1), .int 0, .ref m_goesTo, .ref m_hadBy, .ref m_wasSaid, .int 0, .ref m_kept, .ref m_hasBy, .ref m_standsThen, .ref m_isFit, .ref m_cornerThen, .long 0, .ref m_images, .ref m_imageForce, .ref m_imageX, .ref m_isMade]))] := G
  subst hp
  exact m_reti E G hr (by decide) (fun _ => 0, fun _ _ => 0, fun _ _ => none) rfl [0] (by decide) rfl (by decide) (by decide) dX11_clauseHere_55
