theorem mw_fl_11_90 : (Cond.fieldLink RX11 90 "LureTownModel" "wrong" "I" : Cond) ∈ cw := cw_of (List.mem_append_right _ (List.mem_append_right _ (List.mem_append_right _ (List.mem_append_right _ (List.mem_append_right _ (List.mem_append_left _ (List.mem_of_getElem? (i := 116) (by decide +kernel)))))))) (by decide +kernel)
theorem mw_fl_11_93 : (Cond.fieldLink RX11 93 "LureTownModel" "next" "I" : Cond) ∈ cw := cw_of (List.mem_append_right _ (List.mem_append_right _ (List.mem_append_right _ (List.mem_append_right _ (List.mem_append_right _ (List.mem_append_left _ (List.mem_of_getElem? (i := 115) (by decide +kernel)))))))) (by decide +kernel)
theorem dX11_fails_0 : decode cX11_fails 0 = .ok (.aload_n 0, 1) := by decide +kernel
theorem dX11_fails_1 : decode cX11_fails 1 = .ok (.getfield 90, 3) := by decide +kernel
theorem dX11_fails_4 : decode cX11_fails 4 = .ok (.ifCond .ne 15, 3) := by decide +kernel
theorem dX11_fails_7 : decode cX11_fails 7 = .ok (.aload_n 0, 1) := by decide +kernel
theorem dX11_fails_8 : decode cX11_fails 8 = .ok (.iconst 1, 1) := by decide +kernel
theorem dX11_fails_9 : decode cX11_fails 9 = .ok (.bipush 8, 2) := by decide +kernel
theorem dX11_fails_11 : decode cX11_fails 11 = .ok (.iload_n 2, 1) := by decide +kernel
theorem dX11_fails_12 : decode cX11_fails 12 = .ok (.imul, 1) := by decide +kernel
theorem dX11_fails_13 : decode cX11_fails 13 = .ok (.iadd, 1) := by decide +kernel
theorem dX11_fails_14 : decode cX11_fails 14 = .ok (.iload_n 1, 1) := by decide +kernel
theorem dX11_fails_15 : decode cX11_fails 15 = .ok (.iadd, 1) := by decide +kernel
theorem dX11_fails_16 : decode cX11_fails 16 = .ok (.putfield 90, 3) := by decide +kernel
theorem dX11_fails_19 : decode cX11_fails 19 = .ok (.iconst 0, 1) := by decide +kernel
theorem dX11_fails_20 : decode cX11_fails 20 = .ok (.ireturn, 1) := by decide +kernel
theorem dX11_isLetter_0 : decode cX11_isLetter 0 = .ok (.iload_n 1, 1) := by decide +kernel
theorem dX11_isLetter_1 : decode cX11_isLetter 1 = .ok (.aload_n 0, 1) := by decide +kernel
theorem dX11_isLetter_2 : decode cX11_isLetter 2 = .ok (.getfield 83, 3) := by decide +kernel
theorem dX11_isLetter_5 : decode cX11_isLetter 5 = .ok (.if_icmp .ge 29, 3) := by decide +kernel
theorem dX11_isLetter_34 : decode cX11_isLetter 34 = .ok (.iconst 0, 1) := by decide +kernel
theorem dX11_isLetter_35 : decode cX11_isLetter 35 = .ok (.ireturn, 1) := by decide +kernel
theorem dX11_see_0 : decode cX11_see 0 = .ok (.aload_n 0, 1) := by decide +kernel
theorem dX11_see_1 : decode cX11_see 1 = .ok (.getfield 93, 3) := by decide +kernel
theorem dX11_see_4 : decode cX11_see 4 = .ok (.aload_n 0, 1) := by decide +kernel
theorem dX11_see_5 : decode cX11_see 5 = .ok (.getfield 83, 3) := by decide +kernel
theorem dX11_see_8 : decode cX11_see 8 = .ok (.if_icmp .ge 30, 3) := by decide +kernel
theorem dX11_see_38 : decode cX11_see 38 = .ok (.aload_n 0, 1) := by decide +kernel
theorem dX11_see_39 : decode cX11_see 39 = .ok (.getfield 93, 3) := by decide +kernel
theorem dX11_see_42 : decode cX11_see 42 = .ok (.aload_n 0, 1) := by decide +kernel
theorem dX11_see_43 : decode cX11_see 43 = .ok (.getfield 83, 3) := by decide +kernel
theorem dX11_see_46 : decode cX11_see 46 = .ok (.if_icmp .ge 19, 3) := by decide +kernel
theorem dX11_see_65 : decode cX11_see 65 = .ok (.iconst (-1), 1) := by decide +kernel
theorem dX11_see_66 : decode cX11_see 66 = .ok (.ireturn, 1) := by decide +kernel
set_option maxHeartbeats 4000000 in
set_option maxRecDepth 100000 in
theorem r_see (l : Launch) (D : va_G) (K : Nat → ClassId) (h0 : Nat) (m_tape : Nat) (m_sign : Nat) (m_length : Nat) (m_clause : Nat) (m_clauses : Nat) (m_read : Nat) (v_text : Int32) (m_open : Nat) (m_stack : Nat) (m_word : Nat) (m_said : Nat) (m_goesTo : Nat) (m_hadBy : Nat) (m_wasSaid : Nat) (m_kept : Nat) (m_hasBy : Nat) (m_standsThen : Nat) (m_isFit : Nat) (m_cornerThen : Nat) (m_images : Nat) (m_imageForce : Nat) (m_imageX : Nat) (m_isMade : Nat) : mI (S := mU) l yX11_see cX11_see 1 .int ({ frames := 0, cells := 0, slots := 0, locals := 0 }) D K [(h0, .inr (11, [.ref m_tape, .int 0, .int 0, .ref m_sign, .ref m_length, .ref m_clause, .ref m_clauses, .ref m_read, .int 0, .int 0, .int 0, .int v_text, .int 0, .int 0, .int 0, .ref m_open, .int 0, .ref m_stack, .int 0, .ref m_word, .ref m_said, .int (-1), .int 0, .ref m_goesTo, .ref m_hadBy, .ref m_wasSaid, .int 0, .ref m_kept, .ref m_hasBy, .ref m_standsThen, .ref m_isFit, .ref m_cornerThen, .long 0, .ref m_images, .ref m_imageForce, .ref m_imageX, .ref m_isMade]))] [.ref h0] (fun r u => r = (-1)) (fun u => [(h0, .inr (11, [.ref m_tape, .int 0, .int 0, .ref m_sign, .ref m_length, .ref m_clause, .ref m_clauses, .ref m_read, .int 0, .int 0, .int 0, .int v_text, .int 0, .int 0, .int 0, .ref m_open, .int 0, .ref m_stack, .int 0, .ref m_word, .ref m_said, .int (-1), .int 0, .ref m_goesTo, .ref m_hadBy, .ref m_wasSaid, .int 0, .ref m_kept, .ref m_hasBy, .ref m_standsThen, .ref m_isFit, .ref m_cornerThen, .long 0, .ref m_images, .ref m_imageForce, .ref m_imageX, .ref m_isMade]))]) := by
  refine m_enterI (by decide) (Nat.le_of_ble_eq_true rfl) ?_
  intro p e s m args below meth c A ls E hr G hl
  have E : mE p s m meth c cX11_see args 1 RX11 D K A := E
  have hl : lv_has ls 1 [(0, .ref h0)] := hl
  obtain ⟨H, hH⟩ : ∃ H, H = s.heap := ⟨_, rfl⟩
  obtain ⟨locs, hlo⟩ : ∃ L : List Loc, L = [] := ⟨_, rfl⟩
  rw [← hH, ← hlo] at G
  rw [← hH, ← hlo]
  have G : mG D A s H locs [(h0, .inr (11, [.ref m_tape, .int 0, .int 0, .ref m_sign, .ref m_length, .ref m_clause, .ref m_clauses, .ref m_read, .int 0, .int 0, .int 0, .int v_text, .int 0, .int 0, .int 0, .ref m_open, .int 0, .ref m_stack, .int 0, .ref m_word, .ref m_said, .int (-1), .int 0, .ref m_goesTo, .ref m_hadBy, .ref m_wasSaid, .int 0, .ref m_kept, .ref m_hasBy, .ref m_standsThen, .ref m_isFit, .ref m_cornerThen, .long 0, .ref m_images, .ref m_imageForce, .ref m_imageX, .ref m_isMade]))] := G
  clear hH hlo
  refine lv_aload_n E.1 E.2.1 dX11_see_0 rfl (lv_at hl 0 rfl) ?_
  refine m_get E G 0 (ci := 11) rfl 8 (C := RX11) (T := TX11) (N := 37) rfl (by decide) mw_fl_11_93 (v := .int 0) rfl dX11_see_1 ?_
  refine lv_aload_n E.1 E.2.1 dX11_see_4 rfl (lv_at hl 0 rfl) ?_
  refine m_get E G 0 (ci := 11) rfl 1 (C := RX11) (T := TX11) (N := 37) rfl (by decide) mw_fl_11_83 (v := .int 0) rfl dX11_see_5 ?_
  refine lv_icmp_ge (tgt := 38) E.1 E.2.1 dX11_see_8 (by decide) (fun _ => ?_) (fun h => absurd (by decide) h)
  refine lv_aload_n E.1 E.2.1 dX11_see_38 rfl (lv_at hl 0 rfl) ?_
  refine m_get E G 0 (ci := 11) rfl 8 (C := RX11) (T := TX11) (N := 37) rfl (by decide) mw_fl_11_93 (v := .int 0) rfl dX11_see_39 ?_
  refine lv_aload_n E.1 E.2.1 dX11_see_42 rfl (lv_at hl 0 rfl) ?_
  refine m_get E G 0 (ci := 11) rfl 1 (C := RX11) (T := TX11) (N := 37) rfl (by decide) mw_fl_11_83 (v := .int 0) rfl dX11_see_43 ?_
  refine lv_icmp_ge (tgt := 65) E.1 E.2.1 dX11_see_46 (by decide) (fun _ => ?_) (fun h => absurd (by decide) h)
  refine lv_iconst (v := (-1)) E.1 E.2.1 dX11_see_65 (by decide) ?_
  exact m_reti E G hr rfl (fun _ => 0, fun _ _ => 0, fun _ _ => none) rfl [0] (by decide) rfl (by decide) (by decide) dX11_see_66
set_option maxHeartbeats 4000000 in
set_option maxRecDepth 100000 in
theorem r_isLetter (l : Launch) (D : va_G) (K : Nat → ClassId) (h0 : Nat) (m_tape : Nat) (m_sign : Nat) (m_length : Nat) (m_clause : Nat) (m_clauses : Nat) (m_read : Nat) (v_text : Int32) (m_open : Nat) (m_stack : Nat) (m_word : Nat) (m_said : Nat) (m_goesTo : Nat) (m_hadBy : Nat) (m_wasSaid : Nat) (m_kept : Nat) (m_hasBy : Nat) (m_standsThen : Nat) (m_isFit : Nat) (m_cornerThen : Nat) (m_images : Nat) (m_imageForce : Nat) (m_imageX : Nat) (m_isMade : Nat) : mI (S := mU) l yX11_isLetter cX11_isLetter 2 .boolean ({ frames := 0, cells := 0, slots := 0, locals := 0 }) D K [(h0, .inr (11, [.ref m_tape, .int 0, .int 0, .ref m_sign, .ref m_length, .ref m_clause, .ref m_clauses, .ref m_read, .int 0, .int 0, .int 0, .int v_text, .int 0, .int 0, .int 0, .ref m_open, .int 0, .ref m_stack, .int 0, .ref m_word, .ref m_said, .int (-1), .int 0, .ref m_goesTo, .ref m_hadBy, .ref m_wasSaid, .int 0, .ref m_kept, .ref m_hasBy, .ref m_standsThen, .ref m_isFit, .ref m_cornerThen, .long 0, .ref m_images, .ref m_imageForce, .ref m_imageX, .ref m_isMade]))] [.ref h0, .int 0] (fun r u => r = 0) (fun u => [(h0, .inr (11, [.ref m_tape, .int 0, .int 0, .ref m_sign, .ref m_length, .ref m_clause, .ref m_clauses, .ref m_read, .int 0, .int 0, .int 0, .int v_text, .int 0, .int 0, .int 0, .ref m_open, .int 0, .ref m_stack, .int 0, .ref m_word, .ref m_said, .int (-1), .int 0, .ref m_goesTo, .ref m_hadBy, .ref m_wasSaid, .int 0, .ref m_kept, .ref m_hasBy, .ref m_standsThen, .ref m_isFit, .ref m_cornerThen, .long 0, .ref m_images, .ref m_imageForce, .ref m_imageX, .ref m_isMade]))]) := by
  refine m_enterI (by decide) (Nat.le_of_ble_eq_true rfl) ?_
  intro p e s m args below meth c A ls E hr G hl
  have E : mE p s m meth c cX11_isLetter args 2 RX11 D K A := E
  have hl : lv_has ls 2 [(0, .ref h0), (1, .int 0)] := hl
  obtain ⟨H, hH⟩ : ∃ H, H = s.heap := ⟨_, rfl⟩
  obtain ⟨locs, hlo⟩ : ∃ L : List Loc, L = [] := ⟨_, rfl⟩
  rw [← hH, ← hlo] at G
  rw [← hH, ← hlo]
  have G : mG D A s H locs [(h0, .inr (11, [.ref m_tape, .int 0, .int 0, .ref m_sign, .ref m_length, .ref m_clause, .ref m_clauses, .ref m_read, .int 0, .int 0, .int 0, .int v_text, .int 0, .int 0, .int 0, .ref m_open, .int 0, .ref m_stack, .int 0, .ref m_word, .ref m_said, .int (-1), .int 0, .ref m_goesTo, .ref m_hadBy, .ref m_wasSaid, .int 0, .ref m_kept, .ref m_hasBy, .ref m_standsThen, .ref m_isFit, .ref m_cornerThen, .long 0, .ref m_images, .ref m_imageForce, .ref m_imageX, .ref m_isMade]))] := G
  clear hH hlo
  refine lv_iload_n E.1 E.2.1 dX11_isLetter_0 rfl (lv_at hl 1 rfl) ?_
  refine lv_aload_n E.1 E.2.1 dX11_isLetter_1 rfl (lv_at hl 0 rfl) ?_
  refine m_get E G 0 (ci := 11) rfl 1 (C := RX11) (T := TX11) (N := 37) rfl (by decide) mw_fl_11_83 (v := .int 0) rfl dX11_isLetter_2 ?_
  refine lv_icmp_ge (tgt := 34) E.1 E.2.1 dX11_isLetter_5 (by decide) (fun _ => ?_) (fun h => absurd (by decide) h)
  refine lv_iconst (v := 0) E.1 E.2.1 dX11_isLetter_34 (by decide) ?_
  exact m_reti E G hr (by decide) (fun _ => 0, fun _ _ => 0, fun _ _ => none) rfl [0] (by decide) rfl (by decide) (by decide) dX11_isLetter_35
set_option maxHeartbeats 4000000 in
set_option maxRecDepth 100000 in
theorem r_fails (l : Launch) (D : va_G) (K : Nat → ClassId) (h0 : Nat) (m_tape : Nat) (m_sign : Nat) (m_length : Nat) (m_clause : Nat) (m_clauses : Nat) (m_read : Nat) (v_text : Int32) (m_open : Nat) (m_stack : Nat) (m_word : Nat) (m_said : Nat) (m_goesTo : Nat) (m_hadBy : Nat) (m_wasSaid : Nat) (m_kept : Nat) (m_hasBy : Nat) (m_standsThen : Nat) (m_isFit : Nat) (m_cornerThen : Nat) (m_images : Nat) (m_imageForce : Nat) (m_imageX : Nat) (m_isMade : Nat) : mI (S := mU) l yX11_fails cX11_fails 3 .boolean ({ frames := 0, cells := 0, slots := 0, locals := 0 }) D K [(h0, .inr (11, [.ref m_tape, .int 0, .int 0, .ref m_sign, .ref m_length, .ref m_clause, .ref m_clauses, .ref m_read, .int 0, .int 0, .int 0, .int v_text, .int 0, .int 0, .int 0, .ref m_open, .int 0, .ref m_stack, .int 0, .ref m_word, .ref m_said, .int (-1), .int 0, .ref m_goesTo, .ref m_hadBy, .ref m_wasSaid, .int 0, .ref m_kept, .ref m_hasBy, .ref m_standsThen, .ref m_isFit, .ref m_cornerThen, .long 0, .ref m_images, .ref m_imageForce, .ref m_imageX, .ref m_isMade]))] [.ref h0, .int 0, .int 0] (fun r u => r = 0) (fun u => [(h0, .inr (11, [.ref m_tape, .int 0, .int 0, .ref m_sign, .ref m_length, .ref m_clause, .ref m_clauses, .ref m_read, .int 0, .int 1, .int 0, .int v_text, .int 0, .int 0, .int 0, .ref m_open, .int 0, .ref m_stack, .int 0, .ref m_word, .ref m_said, .int (-1), .int 0, .ref m_goesTo, .ref m_hadBy, .ref m_wasSaid, .int 0, .ref m_kept, .ref m_hasBy, .ref m_standsThen, .ref m_isFit, .ref m_cornerThen, .long 0, .ref m_images, .ref m_imageForce, .ref m_imageX, .ref m_isMade]))]) := by
  refine m_enterI (by decide) (Nat.le_of_ble_eq_true rfl) ?_
  intro p e s m args below meth c A ls E hr G hl
  have E : mE p s m meth c cX11_fails args 3 RX11 D K A := E
  have hl : lv_has ls 3 [(0, .ref h0), (1, .int 0), (2, .int 0)] := hl
  obtain ⟨H, hH⟩ : ∃ H, H = s.heap := ⟨_, rfl⟩
  obtain ⟨locs, hlo⟩ : ∃ L : List Loc, L = [] := ⟨_, rfl⟩
  rw [← hH, ← hlo] at G
  rw [← hH, ← hlo]
  have G : mG D A s H locs [(h0, .inr (11, [.ref m_tape, .int 0, .int 0, .ref m_sign, .ref m_length, .ref m_clause, .ref m_clauses, .ref m_read, .int 0, .int 0, .int 0, .int v_text, .int 0, .int 0, .int 0, .ref m_open, .int 0, .ref m_stack, .int 0, .ref m_word, .ref m_said, .int (-1), .int 0, .ref m_goesTo, .ref m_hadBy, .ref m_wasSaid, .int 0, .ref m_kept, .ref m_hasBy, .ref m_standsThen, .ref m_isFit, .ref m_cornerThen, .long 0, .ref m_images, .ref m_imageForce, .ref m_imageX, .ref m_isMade]))] := G
  clear hH hlo
  refine lv_aload_n E.1 E.2.1 dX11_fails_0 rfl (lv_at hl 0 rfl) ?_
  refine m_get E G 0 (ci := 11) rfl 9 (C := RX11) (T := TX11) (N := 37) rfl (by decide) mw_fl_11_90 (v := .int 0) rfl dX11_fails_1 ?_
  refine lv_if_ne (tgt := 19) E.1 E.2.1 dX11_fails_4 (by decide) (fun h => absurd (by decide) h) (fun _ => ?_)
  refine lv_aload_n E.1 E.2.1 dX11_fails_7 rfl (lv_at hl 0 rfl) ?_
  refine lv_iconst (v := 1) E.1 E.2.1 dX11_fails_8 (by decide) ?_
  refine lv_bipush (v := 8) E.1 E.2.1 dX11_fails_9 (by decide) ?_
  refine lv_iload_n E.1 E.2.1 dX11_fails_11 rfl (lv_at hl 2 rfl) ?_
  refine lv_imul E.1 E.2.1 dX11_fails_12 ?_
  refine m_ci 0 (by decide) ?_
  refine lv_iadd E.1 E.2.1 dX11_fails_13 ?_
  refine m_ci 1 (by decide) ?_
  refine lv_iload_n E.1 E.2.1 dX11_fails_14 rfl (lv_at hl 1 rfl) ?_
  refine lv_iadd E.1 E.2.1 dX11_fails_15 ?_
  refine m_ci 1 (by decide) ?_
  refine m_put E G 0 (ci := 11) rfl 9 (C := RX11) (T := TX11) (N := 37) rfl (by decide) mw_fl_11_90 rfl rfl rfl (Nat.le_of_ble_eq_true rfl) dX11_fails_16 (fun H locs G => ?_)
  have G : mG D A s H locs [(h0, .inr (11, [.ref m_tape, .int 0, .int 0, .ref m_sign, .ref m_length, .ref m_clause, .ref m_clauses, .ref m_read, .int 0, .int 1, .int 0, .int v_text, .int 0, .int 0, .int 0, .ref m_open, .int 0, .ref m_stack, .int 0, .ref m_word, .ref m_said, .int (-1), .int 0, .ref m_goesTo, .ref m_hadBy, .ref m_wasSaid, .int 0, .ref m_kept, .ref m_hasBy, .ref m_standsThen, .ref m_isFit, .ref m_cornerThen, .long 0, .ref m_images, .ref m_imageForce, .ref m_imageX, .ref m_isMade]))] := G
  refine lv_iconst (v := 0) E.1 E.2.1 dX11_fails_19 (by decide) ?_
  exact m_reti E G hr (by decide) (fun _ => 0, fun _ _ => 0, fun _ _ => none) rfl [0] (by decide) rfl (by decide) (by decide) dX11_fails_20
