theorem mw_cL_11_125 : (Cond.constantLong RX11 125 (131260314510706) : Cond) ∈ cw := cw_of (List.mem_append_right _ (List.mem_append_right _ (List.mem_append_right _ (List.mem_append_right _ (List.mem_append_right _ (List.mem_append_right _ (List.mem_append_left _ (List.mem_of_getElem? (i := 23) (by decide +kernel))))))))) (by decide +kernel)
theorem mw_cL_11_223 : (Cond.constantLong RX11 223 (1953462126) : Cond) ∈ cw := cw_of (List.mem_append_right _ (List.mem_append_right _ (List.mem_append_right _ (List.mem_append_right _ (List.mem_append_right _ (List.mem_append_right _ (List.mem_append_left _ (List.mem_of_getElem? (i := 12) (by decide +kernel))))))))) (by decide +kernel)
theorem mw_cL_11_228 : (Cond.constantLong RX11 228 (7823737) : Cond) ∈ cw := cw_of (List.mem_append_right _ (List.mem_append_right _ (List.mem_append_right _ (List.mem_append_right _ (List.mem_append_right _ (List.mem_append_right _ (List.mem_append_left _ (List.mem_of_getElem? (i := 21) (by decide +kernel))))))))) (by decide +kernel)
theorem mw_cL_11_233 : (Cond.constantLong RX11 233 (1819636325) : Cond) ∈ cw := cw_of (List.mem_append_right _ (List.mem_append_right _ (List.mem_append_right _ (List.mem_append_right _ (List.mem_append_right _ (List.mem_append_right _ (List.mem_append_left _ (List.mem_of_getElem? (i := 22) (by decide +kernel))))))))) (by decide +kernel)
theorem mw_code_X11_isWord : (Cond.code yX11_isWord cX11_isWord 6 (some .boolean) : Cond) ∈ cw := cw_of (List.mem_append_right _ (List.mem_append_right _ (List.mem_append_right _ (List.mem_append_right _ (List.mem_append_right _ (List.mem_append_right _ (List.mem_append_left _ (List.mem_of_getElem? (i := 16) rfl)))))))) (by decide +kernel)
theorem mw_inst_X11_isWord : (Cond.instanceMethod yX11_isWord : Cond) ∈ cw := cw_of (List.mem_append_right _ (List.mem_append_right _ (List.mem_append_right _ (List.mem_append_right _ (List.mem_append_right _ (List.mem_append_right _ (List.mem_append_left _ (List.mem_of_getElem? (i := 15) (by decide +kernel))))))))) (by decide +kernel)
theorem mw_ml_11_104 : (Cond.methodLink RX11 104 yX11_isWord : Cond) ∈ cw := cw_of (List.mem_append_right _ (List.mem_append_right _ (List.mem_append_right _ (List.mem_append_right _ (List.mem_append_right _ (List.mem_append_right _ (List.mem_append_left _ (List.mem_of_getElem? (i := 13) (by decide +kernel))))))))) (by decide +kernel)
theorem mw_sel_X11_isWord : (Cond.selects RX11 yX11_isWord yX11_isWord : Cond) ∈ cw := cw_of (List.mem_append_left _ (List.mem_of_getElem? (i := 52) (by decide +kernel))) (by decide +kernel)
theorem dX11_isTownWord_0 : decode cX11_isTownWord 0 = .ok (.aload_n 0, 1) := by decide +kernel
theorem dX11_isTownWord_1 : decode cX11_isTownWord 1 = .ok (.ldc2_w 223, 3) := by decide +kernel
theorem dX11_isTownWord_4 : decode cX11_isTownWord 4 = .ok (.invokevirtual 104, 3) := by decide +kernel
theorem dX11_isTownWord_7 : decode cX11_isTownWord 7 = .ok (.ifCond .ne 33, 3) := by decide +kernel
theorem dX11_isTownWord_10 : decode cX11_isTownWord 10 = .ok (.aload_n 0, 1) := by decide +kernel
theorem dX11_isTownWord_11 : decode cX11_isTownWord 11 = .ok (.ldc2_w 228, 3) := by decide +kernel
theorem dX11_isTownWord_14 : decode cX11_isTownWord 14 = .ok (.invokevirtual 104, 3) := by decide +kernel
theorem dX11_isTownWord_17 : decode cX11_isTownWord 17 = .ok (.ifCond .ne 23, 3) := by decide +kernel
theorem dX11_isTownWord_20 : decode cX11_isTownWord 20 = .ok (.aload_n 0, 1) := by decide +kernel
theorem dX11_isTownWord_21 : decode cX11_isTownWord 21 = .ok (.ldc2_w 233, 3) := by decide +kernel
theorem dX11_isTownWord_24 : decode cX11_isTownWord 24 = .ok (.invokevirtual 104, 3) := by decide +kernel
theorem dX11_isTownWord_27 : decode cX11_isTownWord 27 = .ok (.ifCond .ne 13, 3) := by decide +kernel
theorem dX11_isTownWord_30 : decode cX11_isTownWord 30 = .ok (.aload_n 0, 1) := by decide +kernel
theorem dX11_isTownWord_31 : decode cX11_isTownWord 31 = .ok (.ldc2_w 125, 3) := by decide +kernel
theorem dX11_isTownWord_34 : decode cX11_isTownWord 34 = .ok (.invokevirtual 104, 3) := by decide +kernel
theorem dX11_isTownWord_37 : decode cX11_isTownWord 37 = .ok (.ifCond .eq 7, 3) := by decide +kernel
theorem dX11_isTownWord_44 : decode cX11_isTownWord 44 = .ok (.iconst 0, 1) := by decide +kernel
theorem dX11_isTownWord_45 : decode cX11_isTownWord 45 = .ok (.ireturn, 1) := by decide +kernel
theorem hd_X11_isWord : yX11_isWord.cls ≠ "java/lang/invoke/MethodHandle" ∧ yX11_isWord.cls ≠ "java/lang/invoke/VarHandle" ∧ (parseMethodDescriptor yX11_isWord.desc).map (fun d => d.parameters.length) = some 1 := ⟨by decide +kernel, by decide +kernel, by decide +kernel⟩
set_option maxHeartbeats 4000000 in
set_option maxRecDepth 100000 in
theorem r_isTownWord (l : Launch) (D : va_G) (K : Nat → ClassId) (h0 : Nat) (m_tape : Nat) (m_sign : Nat) (m_length : Nat) (m_clause : Nat) (m_clauses : Nat) (m_read : Nat) (v_text : Int32) (m_open : Nat) (m_stack : Nat) (m_word : Nat) (m_said : Nat) (m_goesTo : Nat) (m_hadBy : Nat) (m_wasSaid : Nat) (m_kept : Nat) (m_hasBy : Nat) (m_standsThen : Nat) (m_isFit : Nat) (m_cornerThen : Nat) (m_images : Nat) (m_imageForce : Nat) (m_imageX : Nat) (m_isMade : Nat) : mI (S := mU) l yX11_isTownWord cX11_isTownWord 1 .boolean ({ frames := 2, cells := 0, slots := 0, locals := 46 }) D K [(h0, .inr (11, [.ref m_tape, .int 0, .int 0, .ref m_sign, .ref m_length, .ref m_clause, .ref m_clauses, .ref m_read, .int 0, .int 0, .int 0, .int v_text, .int 0, .int 0, .int 0, .ref m_open, .int 0, .ref m_stack, .int 0, .ref m_word, .ref m_said, .int (-1), .int 0, .ref m_goesTo, .ref m_hadBy, .ref m_wasSaid, .int 0, .ref m_kept, .ref m_hasBy, .ref m_standsThen, .ref m_isFit, .ref m_cornerThen, .long 0, .ref m_images, .ref m_imageForce, .ref m_imageX, .ref m_isMade]))] [.ref h0] (fun r u => r = 0) (fun u => [(h0, .inr (11, [.ref m_tape, .int 0, .int 0, .ref m_sign, .ref m_length, .ref m_clause, .ref m_clauses, .ref m_read, .int 0, .int 0, .int 0, .int v_text, .int 0, .int 0, .int 0, .ref m_open, .int 0, .ref m_stack, .int 0, .ref m_word, .ref m_said, .int (-1), .int 0, .ref m_goesTo, .ref m_hadBy, .ref m_wasSaid, .int 0, .ref m_kept, .ref m_hasBy, .ref m_standsThen, .ref m_isFit, .ref m_cornerThen, .long 0, .ref m_images, .ref m_imageForce, .ref m_imageX, .ref m_isMade]))]) := by
  refine m_enterI (by decide) (Nat.le_of_ble_eq_true rfl) ?_
  intro p e s m args below meth c A ls E hr G hl
  have E : mE p s m meth c cX11_isTownWord args 1 RX11 D K A := E
  have hl : lv_has ls 1 [(0, .ref h0)] := hl
  obtain ⟨H, hH⟩ : ∃ H, H = s.heap := ⟨_, rfl⟩
  obtain ⟨locs, hlo⟩ : ∃ L : List Loc, L = [] := ⟨_, rfl⟩
  rw [← hH, ← hlo] at G
  rw [← hH, ← hlo]
  have G : mG D A s H locs [(h0, .inr (11, [.ref m_tape, .int 0, .int 0, .ref m_sign, .ref m_length, .ref m_clause, .ref m_clauses, .ref m_read, .int 0, .int 0, .int 0, .int v_text, .int 0, .int 0, .int 0, .ref m_open, .int 0, .ref m_stack, .int 0, .ref m_word, .ref m_said, .int (-1), .int 0, .ref m_goesTo, .ref m_hadBy, .ref m_wasSaid, .int 0, .ref m_kept, .ref m_hasBy, .ref m_standsThen, .ref m_isFit, .ref m_cornerThen, .long 0, .ref m_images, .ref m_imageForce, .ref m_imageX, .ref m_isMade]))] := G
  clear hH hlo
  refine lv_aload_n E.1 E.2.1 dX11_isTownWord_0 rfl (lv_at hl 0 rfl) ?_
  refine lv_ldc2 (v := 1953462126) E.1 E.2.1 E.2.2.2.1 (E.2.2.2.2.1 _ mw_cL_11_223) dX11_isTownWord_1 ?_
  refine m_vi E G hl (r_isWord l D K h0 m_tape m_sign m_length m_clause m_clauses m_read v_text m_open m_stack m_word m_said m_goesTo m_hadBy m_wasSaid m_kept m_hasBy m_standsThen m_isFit m_cornerThen m_images m_imageForce m_imageX m_isMade 1953462126) (wr := []) [0] [] rfl rfl (by decide) (by decide) (by decide) 0 (ci := 11) rfl rfl rfl 1 rfl mw_code_X11_isWord mw_ini_11 mw_ml_11_104 mw_inst_X11_isWord mw_sel_X11_isWord hd_X11_isWord ⟨by decide, by decide⟩ rfl (Nat.le_of_ble_eq_true rfl) ⟨by decide, by decide⟩ dX11_isTownWord_4 (fun r_2 u_1 H locs hp G => ?_)
  have G : mG D A s H locs [(h0, .inr (11, [.ref m_tape, .int 0, .int 0, .ref m_sign, .ref m_length, .ref m_clause, .ref m_clauses, .ref m_read, .int 0, .int 0, .int 0, .int v_text, .int 0, .int 0, .int 0, .ref m_open, .int 0, .ref m_stack, .int 0, .ref m_word, .ref m_said, .int (-1), .int 0, .ref m_goesTo, .ref m_hadBy, .ref m_wasSaid, .int 0, .ref m_kept, .ref m_hasBy, .ref m_standsThen, .ref m_isFit, .ref m_cornerThen, .long 0, .ref m_images, .ref m_imageForce, .ref m_imageX, .ref m_isMade]))] := G
  subst hp
  refine lv_if_ne (tgt := 40) E.1 E.2.1 dX11_isTownWord_7 (by decide) (fun h => absurd (by decide) h) (fun _ => ?_)
  refine lv_aload_n E.1 E.2.1 dX11_isTownWord_10 rfl (lv_at hl 0 rfl) ?_
  refine lv_ldc2 (v := 7823737) E.1 E.2.1 E.2.2.2.1 (E.2.2.2.2.1 _ mw_cL_11_228) dX11_isTownWord_11 ?_
  refine m_vi E G hl (r_isWord l D K h0 m_tape m_sign m_length m_clause m_clauses m_read v_text m_open m_stack m_word m_said m_goesTo m_hadBy m_wasSaid m_kept m_hasBy m_standsThen m_isFit m_cornerThen m_images m_imageForce m_imageX m_isMade 7823737) (wr := []) [0] [] rfl rfl (by decide) (by decide) (by decide) 0 (ci := 11) rfl rfl rfl 1 rfl mw_code_X11_isWord mw_ini_11 mw_ml_11_104 mw_inst_X11_isWord mw_sel_X11_isWord hd_X11_isWord ⟨by decide, by decide⟩ rfl (Nat.le_of_ble_eq_true rfl) ⟨by decide, by decide⟩ dX11_isTownWord_14 (fun r_4 u_3 H locs hp G => ?_)
  have G : mG D A s H locs [(h0, .inr (11, [.ref m_tape, .int 0, .int 0, .ref m_sign, .ref m_length, .ref m_clause, .ref m_clauses, .ref m_read, .int 0, .int 0, .int 0, .int v_text, .int 0, .int 0, .int 0, .ref m_open, .int 0, .ref m_stack, .int 0, .ref m_word, .ref m_said, .int (-1), .int 0, .ref m_goesTo, .ref m_hadBy, .ref m_wasSaid, .int 0, .ref m_kept, .ref m_hasBy, .ref m_standsThen, .ref m_isFit, .ref m_cornerThen, .long 0, .ref m_images, .ref m_imageForce, .ref m_imageX, .ref m_isMade]))] := G
  subst hp
  refine lv_if_ne (tgt := 40) E.1 E.2.1 dX11_isTownWord_17 (by decide) (fun h => absurd (by decide) h) (fun _ => ?_)
  refine lv_aload_n E.1 E.2.1 dX11_isTownWord_20 rfl (lv_at hl 0 rfl) ?_
  refine lv_ldc2 (v := 1819636325) E.1 E.2.1 E.2.2.2.1 (E.2.2.2.2.1 _ mw_cL_11_233) dX11_isTownWord_21 ?_
  refine m_vi E G hl (r_isWord l D K h0 m_tape m_sign m_length m_clause m_clauses m_read v_text m_open m_stack m_word m_said m_goesTo m_hadBy m_wasSaid m_kept m_hasBy m_standsThen m_isFit m_cornerThen m_images m_imageForce m_imageX m_isMade 1819636325) (wr := []) [0] [] rfl rfl (by decide) (by decide) (by decide) 0 (ci := 11) rfl rfl rfl 1 rfl mw_code_X11_isWord mw_ini_11 mw_ml_11_104 mw_inst_X11_isWord mw_sel_X11_isWord hd_X11_isWord ⟨by decide, by decide⟩ rfl (Nat.le_of_ble_eq_true rfl) ⟨by decide, by decide⟩ dX11_isTownWord_24 (fun r_6 u_5 H locs hp G => ?_)
  have G : mG D A s H locs [(h0, .inr (11, [.ref m_tape, .int 0, .int 0, .ref m_sign, .ref m_length, .ref m_clause, .ref m_clauses, .ref m_read, .int 0, .int 0, .int 0, .int v_text, .int 0, .int 0, .int 0, .ref m_open, .int 0, .ref m_stack, .int 0, .ref m_word, .ref m_said, .int (-1), .int 0, .ref m_goesTo, .ref m_hadBy, .ref m_wasSaid, .int 0, .ref m_kept, .ref m_hasBy, .ref m_standsThen, .ref m_isFit, .ref m_cornerThen, .long 0, .ref m_images, .ref m_imageForce, .ref m_imageX, .ref m_isMade]))] := G
  subst hp
  refine lv_if_ne (tgt := 40) E.1 E.2.1 dX11_isTownWord_27 (by decide) (fun h => absurd (by decide) h) (fun _ => ?_)
  refine lv_aload_n E.1 E.2.1 dX11_isTownWord_30 rfl (lv_at hl 0 rfl) ?_
  refine lv_ldc2 (v := 131260314510706) E.1 E.2.1 E.2.2.2.1 (E.2.2.2.2.1 _ mw_cL_11_125) dX11_isTownWord_31 ?_
  refine m_vi E G hl (r_isWord l D K h0 m_tape m_sign m_length m_clause m_clauses m_read v_text m_open m_stack m_word m_said m_goesTo m_hadBy m_wasSaid m_kept m_hasBy m_standsThen m_isFit m_cornerThen m_images m_imageForce m_imageX m_isMade 131260314510706) (wr := []) [0] [] rfl rfl (by decide) (by decide) (by decide) 0 (ci := 11) rfl rfl rfl 1 rfl mw_code_X11_isWord mw_ini_11 mw_ml_11_104 mw_inst_X11_isWord mw_sel_X11_isWord hd_X11_isWord ⟨by decide, by decide⟩ rfl (Nat.le_of_ble_eq_true rfl) ⟨by decide, by decide⟩ dX11_isTownWord_34 (fun r_8 u_7 H locs hp G => ?_)
  have G : mG D A s H locs [(h0, .inr (11, [.ref m_tape, .int 0, .int 0, .ref m_sign, .ref m_length, .ref m_clause, .ref m_clauses, .ref m_read, .int 0, .int 0, .int 0, .int v_text, .int 0, .int 0, .int 0, .ref m_open, .int 0, .ref m_stack, .int 0, .ref m_word, .ref m_said, .int (-1), .int 0, .ref m_goesTo, .ref m_hadBy, .ref m_wasSaid, .int 0, .ref m_kept, .ref m_hasBy, .ref m_standsThen, .ref m_isFit, .ref m_cornerThen, .long 0, .ref m_images, .ref m_imageForce, .ref m_imageX, .ref m_isMade]))] := G
  subst hp
  refine lv_if_eq (tgt := 44) E.1 E.2.1 dX11_isTownWord_37 (by decide) (fun _ => ?_) (fun h => absurd (by decide) h)
  refine lv_iconst (v := 0) E.1 E.2.1 dX11_isTownWord_44 (by decide) ?_
  exact m_reti E G hr (by decide) (fun _ => 0, fun _ _ => 0, fun _ _ => none) rfl [0] (by decide) rfl (by decide) (by decide) dX11_isTownWord_45
