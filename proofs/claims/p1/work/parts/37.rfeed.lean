theorem mw_code_X11_four : (Cond.code yX11_four cX11_four 3 none : Cond) ∈ cw := cw_of (List.mem_append_right _ (List.mem_append_right _ (List.mem_append_right _ (List.mem_append_right _ (List.mem_append_right _ (List.mem_append_left _ (List.mem_of_getElem? (i := 227) rfl))))))) (by decide +kernel)
theorem mw_inst_X11_four : (Cond.instanceMethod yX11_four : Cond) ∈ cw := cw_of (List.mem_append_right _ (List.mem_append_right _ (List.mem_append_right _ (List.mem_append_right _ (List.mem_append_right _ (List.mem_append_left _ (List.mem_of_getElem? (i := 226) (by decide +kernel)))))))) (by decide +kernel)
theorem mw_ml_11_86 : (Cond.methodLink RX11 86 yX11_four : Cond) ∈ cw := cw_of (List.mem_append_right _ (List.mem_append_right _ (List.mem_append_right _ (List.mem_append_right _ (List.mem_append_right _ (List.mem_append_left _ (List.mem_of_getElem? (i := 224) (by decide +kernel)))))))) (by decide +kernel)
theorem mw_sel_X11_four : (Cond.selects RX11 yX11_four yX11_four : Cond) ∈ cw := cw_of (List.mem_append_left _ (List.mem_of_getElem? (i := 47) (by decide +kernel))) (by decide +kernel)
theorem dX11_feed_0 : decode cX11_feed 0 = .ok (.aload_n 0, 1) := by decide +kernel
theorem dX11_feed_1 : decode cX11_feed 1 = .ok (.getfield 83, 3) := by decide +kernel
theorem dX11_feed_4 : decode cX11_feed 4 = .ok (.bipush 20, 2) := by decide +kernel
theorem dX11_feed_6 : decode cX11_feed 6 = .ok (.iadd, 1) := by decide +kernel
theorem dX11_feed_7 : decode cX11_feed 7 = .ok (.sipush 400, 3) := by decide +kernel
theorem dX11_feed_10 : decode cX11_feed 10 = .ok (.if_icmp .le 5, 3) := by decide +kernel
theorem dX11_feed_15 : decode cX11_feed 15 = .ok (.aload_n 0, 1) := by decide +kernel
theorem dX11_feed_16 : decode cX11_feed 16 = .ok (.iload_n 1, 1) := by decide +kernel
theorem dX11_feed_17 : decode cX11_feed 17 = .ok (.invokevirtual 86, 3) := by decide +kernel
theorem dX11_feed_20 : decode cX11_feed 20 = .ok (.aload_n 0, 1) := by decide +kernel
theorem dX11_feed_21 : decode cX11_feed 21 = .ok (.iload_n 2, 1) := by decide +kernel
theorem dX11_feed_22 : decode cX11_feed 22 = .ok (.invokevirtual 86, 3) := by decide +kernel
theorem dX11_feed_25 : decode cX11_feed 25 = .ok (.aload_n 0, 1) := by decide +kernel
theorem dX11_feed_26 : decode cX11_feed 26 = .ok (.iload_n 3, 1) := by decide +kernel
theorem dX11_feed_27 : decode cX11_feed 27 = .ok (.invokevirtual 86, 3) := by decide +kernel
theorem dX11_feed_30 : decode cX11_feed 30 = .ok (.aload_n 0, 1) := by decide +kernel
theorem dX11_feed_31 : decode cX11_feed 31 = .ok (.iload 4, 2) := by decide +kernel
theorem dX11_feed_33 : decode cX11_feed 33 = .ok (.invokevirtual 86, 3) := by decide +kernel
theorem dX11_feed_36 : decode cX11_feed 36 = .ok (.aload_n 0, 1) := by decide +kernel
theorem dX11_feed_37 : decode cX11_feed 37 = .ok (.iload 5, 2) := by decide +kernel
theorem dX11_feed_39 : decode cX11_feed 39 = .ok (.invokevirtual 86, 3) := by decide +kernel
theorem dX11_feed_42 : decode cX11_feed 42 = .ok (.aload_n 0, 1) := by decide +kernel
theorem dX11_feed_43 : decode cX11_feed 43 = .ok (.getfield 83, 3) := by decide +kernel
theorem dX11_feed_46 : decode cX11_feed 46 = .ok (.ireturn, 1) := by decide +kernel
theorem hd_X11_four : yX11_four.cls ≠ "java/lang/invoke/MethodHandle" ∧ yX11_four.cls ≠ "java/lang/invoke/VarHandle" ∧ (parseMethodDescriptor yX11_four.desc).map (fun d => d.parameters.length) = some 1 := ⟨by decide +kernel, by decide +kernel, by decide +kernel⟩
set_option maxHeartbeats 4000000 in
set_option maxRecDepth 100000 in
theorem r_feed (l : Launch) (D : va_G) (K : Nat → ClassId) (h0 : Nat) (m_tape : Nat) (m_sign : Nat) (m_length : Nat) (m_clause : Nat) (m_clauses : Nat) (m_read : Nat) (m_open : Nat) (m_stack : Nat) (m_word : Nat) (m_said : Nat) (m_goesTo : Nat) (m_hadBy : Nat) (m_wasSaid : Nat) (m_kept : Nat) (m_hasBy : Nat) (m_standsThen : Nat) (m_isFit : Nat) (m_cornerThen : Nat) (m_images : Nat) (m_imageForce : Nat) (m_imageX : Nat) (m_isMade : Nat) (p1 : Int32) (p2 : Int32) (p3 : Int32) (p4 : Int32) (p5 : Int32) : mI (S := mU) l yX11_feed cX11_feed 6 .int ({ frames := 1, cells := 0, slots := 0, locals := 22 }) D K [(h0, .inr (11, [.ref m_tape, .int 0, .int 0, .ref m_sign, .ref m_length, .ref m_clause, .ref m_clauses, .ref m_read, .int 0, .int 0, .int 0, .int 0, .int 0, .int 0, .int 0, .ref m_open, .int 0, .ref m_stack, .int 0, .ref m_word, .ref m_said, .int (-1), .int 0, .ref m_goesTo, .ref m_hadBy, .ref m_wasSaid, .int 0, .ref m_kept, .ref m_hasBy, .ref m_standsThen, .ref m_isFit, .ref m_cornerThen, .long 0, .ref m_images, .ref m_imageForce, .ref m_imageX, .ref m_isMade])), (m_tape, .inl (K 1, 400, .inl (fun _ => 0)))] [.ref h0, .int p1, .int p2, .int p3, .int p4, .int p5] (fun r u => r = 20) (fun u => []) := by
  refine m_enterI (by decide) (Nat.le_of_ble_eq_true rfl) ?_
  intro p e s m args below meth c A ls E hr G hl
  have E : mE p s m meth c cX11_feed args 6 RX11 D K A := E
  have hl : lv_has ls 6 [(0, .ref h0), (1, .int p1), (2, .int p2), (3, .int p3), (4, .int p4), (5, .int p5)] := hl
  obtain ⟨H, hH⟩ : ∃ H, H = s.heap := ⟨_, rfl⟩
  obtain ⟨locs, hlo⟩ : ∃ L : List Loc, L = [] := ⟨_, rfl⟩
  rw [← hH, ← hlo] at G
  rw [← hH, ← hlo]
  have G : mG D A s H locs [(h0, .inr (11, [.ref m_tape, .int 0, .int 0, .ref m_sign, .ref m_length, .ref m_clause, .ref m_clauses, .ref m_read, .int 0, .int 0, .int 0, .int 0, .int 0, .int 0, .int 0, .ref m_open, .int 0, .ref m_stack, .int 0, .ref m_word, .ref m_said, .int (-1), .int 0, .ref m_goesTo, .ref m_hadBy, .ref m_wasSaid, .int 0, .ref m_kept, .ref m_hasBy, .ref m_standsThen, .ref m_isFit, .ref m_cornerThen, .long 0, .ref m_images, .ref m_imageForce, .ref m_imageX, .ref m_isMade])), (m_tape, .inl (K 1, 400, .inl (fun _ => 0)))] := G
  clear hH hlo
  refine lv_aload_n E.1 E.2.1 dX11_feed_0 rfl (lv_at hl 0 rfl) ?_
  refine m_get E G 0 (ci := 11) rfl 1 (C := RX11) (T := TX11) (N := 37) rfl (by decide) mw_fl_11_83 (v := .int 0) rfl dX11_feed_1 ?_
  refine lv_bipush (v := 20) E.1 E.2.1 dX11_feed_4 (by decide) ?_
  refine lv_iadd E.1 E.2.1 dX11_feed_6 ?_
  refine m_ci 20 (by decide) ?_
  refine lv_sipush (v := 400) E.1 E.2.1 dX11_feed_7 (by decide) ?_
  refine lv_icmp_le (tgt := 15) E.1 E.2.1 dX11_feed_10 (by decide) (fun _ => ?_) (fun h => absurd (by decide) h)
  refine lv_aload_n E.1 E.2.1 dX11_feed_15 rfl (lv_at hl 0 rfl) ?_
  refine lv_iload_n E.1 E.2.1 dX11_feed_16 rfl (lv_at hl 1 rfl) ?_
  refine m_vv E G hl (r_four_0 l D K h0 m_tape m_sign m_length m_clause m_clauses m_read m_open m_stack m_word m_said m_goesTo m_hadBy m_wasSaid m_kept m_hasBy m_standsThen m_isFit m_cornerThen m_images m_imageForce m_imageX m_isMade (fun _ => 0) p1) (wr := []) [0, 1] [] rfl rfl (by decide) (by decide) (by decide) 0 (ci := 11) rfl rfl rfl 1 rfl mw_code_X11_four mw_ini_11 mw_ml_11_86 mw_inst_X11_four mw_sel_X11_four hd_X11_four ⟨by decide, by decide⟩ rfl (Nat.le_of_ble_eq_true rfl) ⟨by decide, by decide⟩ dX11_feed_17 (fun u_1 H locs hp G => ?_)
  have G : mG D A s H locs [(h0, .inr (11, [.ref m_tape, .int 4, .int 0, .ref m_sign, .ref m_length, .ref m_clause, .ref m_clauses, .ref m_read, .int 0, .int 0, .int 0, .int 0, .int 0, .int 0, .int 0, .ref m_open, .int 0, .ref m_stack, .int 0, .ref m_word, .ref m_said, .int (-1), .int 0, .ref m_goesTo, .ref m_hadBy, .ref m_wasSaid, .int 0, .ref m_kept, .ref m_hasBy, .ref m_standsThen, .ref m_isFit, .ref m_cornerThen, .long 0, .ref m_images, .ref m_imageForce, .ref m_imageX, .ref m_isMade])), (m_tape, .inl (K 1, 400, .inl (u_1.2.1 0)))] := G
  refine lv_aload_n E.1 E.2.1 dX11_feed_20 rfl (lv_at hl 0 rfl) ?_
  refine lv_iload_n E.1 E.2.1 dX11_feed_21 rfl (lv_at hl 2 rfl) ?_
  refine m_vv E G hl (r_four_4 l D K h0 m_tape m_sign m_length m_clause m_clauses m_read m_open m_stack m_word m_said m_goesTo m_hadBy m_wasSaid m_kept m_hasBy m_standsThen m_isFit m_cornerThen m_images m_imageForce m_imageX m_isMade (u_1.2.1 0) p2) (wr := []) [0, 1] [] rfl rfl (by decide) (by decide) (by decide) 0 (ci := 11) rfl rfl rfl 1 rfl mw_code_X11_four mw_ini_11 mw_ml_11_86 mw_inst_X11_four mw_sel_X11_four hd_X11_four ⟨by decide, by decide⟩ rfl (Nat.le_of_ble_eq_true rfl) ⟨by decide, by decide⟩ dX11_feed_22 (fun u_3 H locs hp G => ?_)
  have G : mG D A s H locs [(h0, .inr (11, [.ref m_tape, .int 8, .int 0, .ref m_sign, .ref m_length, .ref m_clause, .ref m_clauses, .ref m_read, .int 0, .int 0, .int 0, .int 0, .int 0, .int 0, .int 0, .ref m_open, .int 0, .ref m_stack, .int 0, .ref m_word, .ref m_said, .int (-1), .int 0, .ref m_goesTo, .ref m_hadBy, .ref m_wasSaid, .int 0, .ref m_kept, .ref m_hasBy, .ref m_standsThen, .ref m_isFit, .ref m_cornerThen, .long 0, .ref m_images, .ref m_imageForce, .ref m_imageX, .ref m_isMade])), (m_tape, .inl (K 1, 400, .inl (u_3.2.1 0)))] := G
  refine lv_aload_n E.1 E.2.1 dX11_feed_25 rfl (lv_at hl 0 rfl) ?_
  refine lv_iload_n E.1 E.2.1 dX11_feed_26 rfl (lv_at hl 3 rfl) ?_
  refine m_vv E G hl (r_four_8 l D K h0 m_tape m_sign m_length m_clause m_clauses m_read m_open m_stack m_word m_said m_goesTo m_hadBy m_wasSaid m_kept m_hasBy m_standsThen m_isFit m_cornerThen m_images m_imageForce m_imageX m_isMade (u_3.2.1 0) p3) (wr := []) [0, 1] [] rfl rfl (by decide) (by decide) (by decide) 0 (ci := 11) rfl rfl rfl 1 rfl mw_code_X11_four mw_ini_11 mw_ml_11_86 mw_inst_X11_four mw_sel_X11_four hd_X11_four ⟨by decide, by decide⟩ rfl (Nat.le_of_ble_eq_true rfl) ⟨by decide, by decide⟩ dX11_feed_27 (fun u_5 H locs hp G => ?_)
  have G : mG D A s H locs [(h0, .inr (11, [.ref m_tape, .int 12, .int 0, .ref m_sign, .ref m_length, .ref m_clause, .ref m_clauses, .ref m_read, .int 0, .int 0, .int 0, .int 0, .int 0, .int 0, .int 0, .ref m_open, .int 0, .ref m_stack, .int 0, .ref m_word, .ref m_said, .int (-1), .int 0, .ref m_goesTo, .ref m_hadBy, .ref m_wasSaid, .int 0, .ref m_kept, .ref m_hasBy, .ref m_standsThen, .ref m_isFit, .ref m_cornerThen, .long 0, .ref m_images, .ref m_imageForce, .ref m_imageX, .ref m_isMade])), (m_tape, .inl (K 1, 400, .inl (u_5.2.1 0)))] := G
  refine lv_aload_n E.1 E.2.1 dX11_feed_30 rfl (lv_at hl 0 rfl) ?_
  refine lv_iload E.1 E.2.1 dX11_feed_31 (lv_at hl 4 rfl) ?_
  refine m_vv E G hl (r_four_12 l D K h0 m_tape m_sign m_length m_clause m_clauses m_read m_open m_stack m_word m_said m_goesTo m_hadBy m_wasSaid m_kept m_hasBy m_standsThen m_isFit m_cornerThen m_images m_imageForce m_imageX m_isMade (u_5.2.1 0) p4) (wr := []) [0, 1] [] rfl rfl (by decide) (by decide) (by decide) 0 (ci := 11) rfl rfl rfl 1 rfl mw_code_X11_four mw_ini_11 mw_ml_11_86 mw_inst_X11_four mw_sel_X11_four hd_X11_four ⟨by decide, by decide⟩ rfl (Nat.le_of_ble_eq_true rfl) ⟨by decide, by decide⟩ dX11_feed_33 (fun u_7 H locs hp G => ?_)
  have G : mG D A s H locs [(h0, .inr (11, [.ref m_tape, .int 16, .int 0, .ref m_sign, .ref m_length, .ref m_clause, .ref m_clauses, .ref m_read, .int 0, .int 0, .int 0, .int 0, .int 0, .int 0, .int 0, .ref m_open, .int 0, .ref m_stack, .int 0, .ref m_word, .ref m_said, .int (-1), .int 0, .ref m_goesTo, .ref m_hadBy, .ref m_wasSaid, .int 0, .ref m_kept, .ref m_hasBy, .ref m_standsThen, .ref m_isFit, .ref m_cornerThen, .long 0, .ref m_images, .ref m_imageForce, .ref m_imageX, .ref m_isMade])), (m_tape, .inl (K 1, 400, .inl (u_7.2.1 0)))] := G
  refine lv_aload_n E.1 E.2.1 dX11_feed_36 rfl (lv_at hl 0 rfl) ?_
  refine lv_iload E.1 E.2.1 dX11_feed_37 (lv_at hl 5 rfl) ?_
  refine m_vv E G hl (r_four_16 l D K h0 m_tape m_sign m_length m_clause m_clauses m_read m_open m_stack m_word m_said m_goesTo m_hadBy m_wasSaid m_kept m_hasBy m_standsThen m_isFit m_cornerThen m_images m_imageForce m_imageX m_isMade (u_7.2.1 0) p5) (wr := []) [0, 1] [] rfl rfl (by decide) (by decide) (by decide) 0 (ci := 11) rfl rfl rfl 1 rfl mw_code_X11_four mw_ini_11 mw_ml_11_86 mw_inst_X11_four mw_sel_X11_four hd_X11_four ⟨by decide, by decide⟩ rfl (Nat.le_of_ble_eq_true rfl) ⟨by decide, by decide⟩ dX11_feed_39 (fun u_9 H locs hp G => ?_)
  have G : mG D A s H locs [(h0, .inr (11, [.ref m_tape, .int 20, .int 0, .ref m_sign, .ref m_length, .ref m_clause, .ref m_clauses, .ref m_read, .int 0, .int 0, .int 0, .int 0, .int 0, .int 0, .int 0, .ref m_open, .int 0, .ref m_stack, .int 0, .ref m_word, .ref m_said, .int (-1), .int 0, .ref m_goesTo, .ref m_hadBy, .ref m_wasSaid, .int 0, .ref m_kept, .ref m_hasBy, .ref m_standsThen, .ref m_isFit, .ref m_cornerThen, .long 0, .ref m_images, .ref m_imageForce, .ref m_imageX, .ref m_isMade])), (m_tape, .inl (K 1, 400, .inl (u_9.2.1 0)))] := G
  refine lv_aload_n E.1 E.2.1 dX11_feed_42 rfl (lv_at hl 0 rfl) ?_
  refine m_get E G 0 (ci := 11) rfl 1 (C := RX11) (T := TX11) (N := 37) rfl (by decide) mw_fl_11_83 (v := .int 20) rfl dX11_feed_43 ?_
  exact m_reti E G hr rfl (fun _ => 0, fun _ _ => 0, fun _ _ => none) rfl [] (by decide) rfl (by decide) (by decide) dX11_feed_46
