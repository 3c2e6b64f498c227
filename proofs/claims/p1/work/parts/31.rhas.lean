theorem mw_fl_11_258 : (Cond.fieldLink RX11 258 "LureTownModel" "rules" "I" : Cond) ∈ cw := cw_of (List.mem_append_right _ (List.mem_append_right _ (List.mem_append_right _ (List.mem_append_right _ (List.mem_append_right _ (List.mem_append_left _ (List.mem_of_getElem? (i := 109) (by decide +kernel)))))))) (by decide +kernel)
theorem dX11_charges_0 : decode cX11_charges 0 = .ok (.iconst 0, 1) := by decide +kernel
theorem dX11_charges_1 : decode cX11_charges 1 = .ok (.istore_n 1, 1) := by decide +kernel
theorem dX11_charges_2 : decode cX11_charges 2 = .ok (.iconst 0, 1) := by decide +kernel
theorem dX11_charges_3 : decode cX11_charges 3 = .ok (.istore_n 2, 1) := by decide +kernel
theorem dX11_charges_4 : decode cX11_charges 4 = .ok (.iload_n 2, 1) := by decide +kernel
theorem dX11_charges_5 : decode cX11_charges 5 = .ok (.aload_n 0, 1) := by decide +kernel
theorem dX11_charges_6 : decode cX11_charges 6 = .ok (.getfield 39, 3) := by decide +kernel
theorem dX11_charges_9 : decode cX11_charges 9 = .ok (.iconst 4, 1) := by decide +kernel
theorem dX11_charges_10 : decode cX11_charges 10 = .ok (.iaload, 1) := by decide +kernel
theorem dX11_charges_11 : decode cX11_charges 11 = .ok (.if_icmp .ge 17, 3) := by decide +kernel
theorem dX11_charges_28 : decode cX11_charges 28 = .ok (.iload_n 1, 1) := by decide +kernel
theorem dX11_charges_29 : decode cX11_charges 29 = .ok (.ireturn, 1) := by decide +kernel
theorem dX11_homeOnes_0 : decode cX11_homeOnes 0 = .ok (.iconst 0, 1) := by decide +kernel
theorem dX11_homeOnes_1 : decode cX11_homeOnes 1 = .ok (.istore_n 1, 1) := by decide +kernel
theorem dX11_homeOnes_2 : decode cX11_homeOnes 2 = .ok (.iconst 0, 1) := by decide +kernel
theorem dX11_homeOnes_3 : decode cX11_homeOnes 3 = .ok (.istore_n 2, 1) := by decide +kernel
theorem dX11_homeOnes_4 : decode cX11_homeOnes 4 = .ok (.iload_n 2, 1) := by decide +kernel
theorem dX11_homeOnes_5 : decode cX11_homeOnes 5 = .ok (.aload_n 0, 1) := by decide +kernel
theorem dX11_homeOnes_6 : decode cX11_homeOnes 6 = .ok (.getfield 39, 3) := by decide +kernel
theorem dX11_homeOnes_9 : decode cX11_homeOnes 9 = .ok (.iconst 4, 1) := by decide +kernel
theorem dX11_homeOnes_10 : decode cX11_homeOnes 10 = .ok (.iaload, 1) := by decide +kernel
theorem dX11_homeOnes_11 : decode cX11_homeOnes 11 = .ok (.if_icmp .ge 36, 3) := by decide +kernel
theorem dX11_homeOnes_47 : decode cX11_homeOnes 47 = .ok (.iload_n 1, 1) := by decide +kernel
theorem dX11_homeOnes_48 : decode cX11_homeOnes 48 = .ok (.ireturn, 1) := by decide +kernel
theorem dX11_in_0 : decode cX11_in 0 = .ok (.lload_n 0, 1) := by decide +kernel
theorem dX11_in_1 : decode cX11_in 1 = .ok (.lload_n 2, 1) := by decide +kernel
theorem dX11_in_2 : decode cX11_in 2 = .ok (.lcmp, 1) := by decide +kernel
theorem dX11_in_3 : decode cX11_in 3 = .ok (.ifCond .lt 14, 3) := by decide +kernel
theorem dX11_in_6 : decode cX11_in 6 = .ok (.lload_n 0, 1) := by decide +kernel
theorem dX11_in_7 : decode cX11_in 7 = .ok (.lload 4, 2) := by decide +kernel
theorem dX11_in_9 : decode cX11_in 9 = .ok (.lcmp, 1) := by decide +kernel
theorem dX11_in_10 : decode cX11_in 10 = .ok (.ifCond .gt 7, 3) := by decide +kernel
theorem dX11_in_13 : decode cX11_in 13 = .ok (.iconst 1, 1) := by decide +kernel
theorem dX11_in_14 : decode cX11_in 14 = .ok (.goto 4, 3) := by decide +kernel
theorem dX11_in_17 : decode cX11_in 17 = .ok (.iconst 0, 1) := by decide +kernel
theorem dX11_in_18 : decode cX11_in 18 = .ok (.ireturn, 1) := by decide +kernel
theorem dX11_isCorner_0 : decode cX11_isCorner 0 = .ok (.iload_n 1, 1) := by decide +kernel
theorem dX11_isCorner_1 : decode cX11_isCorner 1 = .ok (.ifCond .lt 17, 3) := by decide +kernel
theorem dX11_isCorner_4 : decode cX11_isCorner 4 = .ok (.iload_n 1, 1) := by decide +kernel
theorem dX11_isCorner_5 : decode cX11_isCorner 5 = .ok (.aload_n 0, 1) := by decide +kernel
theorem dX11_isCorner_6 : decode cX11_isCorner 6 = .ok (.getfield 39, 3) := by decide +kernel
theorem dX11_isCorner_9 : decode cX11_isCorner 9 = .ok (.iconst 1, 1) := by decide +kernel
theorem dX11_isCorner_10 : decode cX11_isCorner 10 = .ok (.iaload, 1) := by decide +kernel
theorem dX11_isCorner_11 : decode cX11_isCorner 11 = .ok (.if_icmp .ge 7, 3) := by decide +kernel
theorem dX11_isCorner_18 : decode cX11_isCorner 18 = .ok (.iconst 0, 1) := by decide +kernel
theorem dX11_isCorner_19 : decode cX11_isCorner 19 = .ok (.ireturn, 1) := by decide +kernel
theorem dX11_isLure_0 : decode cX11_isLure 0 = .ok (.iload_n 1, 1) := by decide +kernel
theorem dX11_isLure_1 : decode cX11_isLure 1 = .ok (.ifCond .lt 17, 3) := by decide +kernel
theorem dX11_isLure_4 : decode cX11_isLure 4 = .ok (.iload_n 1, 1) := by decide +kernel
theorem dX11_isLure_5 : decode cX11_isLure 5 = .ok (.aload_n 0, 1) := by decide +kernel
theorem dX11_isLure_6 : decode cX11_isLure 6 = .ok (.getfield 39, 3) := by decide +kernel
theorem dX11_isLure_9 : decode cX11_isLure 9 = .ok (.iconst 3, 1) := by decide +kernel
theorem dX11_isLure_10 : decode cX11_isLure 10 = .ok (.iaload, 1) := by decide +kernel
theorem dX11_isLure_11 : decode cX11_isLure 11 = .ok (.if_icmp .ge 7, 3) := by decide +kernel
theorem dX11_isLure_18 : decode cX11_isLure 18 = .ok (.iconst 0, 1) := by decide +kernel
theorem dX11_isLure_19 : decode cX11_isLure 19 = .ok (.ireturn, 1) := by decide +kernel
theorem dX11_isRule_0 : decode cX11_isRule 0 = .ok (.iload_n 1, 1) := by decide +kernel
theorem dX11_isRule_1 : decode cX11_isRule 1 = .ok (.ifCond .lt 15, 3) := by decide +kernel
theorem dX11_isRule_4 : decode cX11_isRule 4 = .ok (.iload_n 1, 1) := by decide +kernel
theorem dX11_isRule_5 : decode cX11_isRule 5 = .ok (.aload_n 0, 1) := by decide +kernel
theorem dX11_isRule_6 : decode cX11_isRule 6 = .ok (.getfield 258, 3) := by decide +kernel
theorem dX11_isRule_9 : decode cX11_isRule 9 = .ok (.if_icmp .ge 7, 3) := by decide +kernel
theorem dX11_isRule_16 : decode cX11_isRule 16 = .ok (.iconst 0, 1) := by decide +kernel
theorem dX11_isRule_17 : decode cX11_isRule 17 = .ok (.ireturn, 1) := by decide +kernel
theorem dX11_isTown_0 : decode cX11_isTown 0 = .ok (.aload_n 0, 1) := by decide +kernel
theorem dX11_isTown_1 : decode cX11_isTown 1 = .ok (.getfield 39, 3) := by decide +kernel
theorem dX11_isTown_4 : decode cX11_isTown 4 = .ok (.iconst 0, 1) := by decide +kernel
theorem dX11_isTown_5 : decode cX11_isTown 5 = .ok (.iaload, 1) := by decide +kernel
theorem dX11_isTown_6 : decode cX11_isTown 6 = .ok (.iconst 1, 1) := by decide +kernel
theorem dX11_isTown_7 : decode cX11_isTown 7 = .ok (.if_icmp .ne 7, 3) := by decide +kernel
theorem dX11_isTown_14 : decode cX11_isTown 14 = .ok (.iconst 0, 1) := by decide +kernel
theorem dX11_isTown_15 : decode cX11_isTown 15 = .ok (.ireturn, 1) := by decide +kernel
theorem dX11_isWalker_0 : decode cX11_isWalker 0 = .ok (.iload_n 1, 1) := by decide +kernel
theorem dX11_isWalker_1 : decode cX11_isWalker 1 = .ok (.ifCond .lt 17, 3) := by decide +kernel
theorem dX11_isWalker_4 : decode cX11_isWalker 4 = .ok (.iload_n 1, 1) := by decide +kernel
theorem dX11_isWalker_5 : decode cX11_isWalker 5 = .ok (.aload_n 0, 1) := by decide +kernel
theorem dX11_isWalker_6 : decode cX11_isWalker 6 = .ok (.getfield 39, 3) := by decide +kernel
theorem dX11_isWalker_9 : decode cX11_isWalker 9 = .ok (.iconst 4, 1) := by decide +kernel
theorem dX11_isWalker_10 : decode cX11_isWalker 10 = .ok (.iaload, 1) := by decide +kernel
theorem dX11_isWalker_11 : decode cX11_isWalker 11 = .ok (.if_icmp .ge 7, 3) := by decide +kernel
theorem dX11_isWalker_18 : decode cX11_isWalker 18 = .ok (.iconst 0, 1) := by decide +kernel
theorem dX11_isWalker_19 : decode cX11_isWalker 19 = .ok (.ireturn, 1) := by decide +kernel
theorem dX11_laidOnes_0 : decode cX11_laidOnes 0 = .ok (.iconst 0, 1) := by decide +kernel
theorem dX11_laidOnes_1 : decode cX11_laidOnes 1 = .ok (.istore_n 1, 1) := by decide +kernel
theorem dX11_laidOnes_2 : decode cX11_laidOnes 2 = .ok (.iconst 0, 1) := by decide +kernel
theorem dX11_laidOnes_3 : decode cX11_laidOnes 3 = .ok (.istore_n 2, 1) := by decide +kernel
theorem dX11_laidOnes_4 : decode cX11_laidOnes 4 = .ok (.iload_n 2, 1) := by decide +kernel
theorem dX11_laidOnes_5 : decode cX11_laidOnes 5 = .ok (.aload_n 0, 1) := by decide +kernel
theorem dX11_laidOnes_6 : decode cX11_laidOnes 6 = .ok (.getfield 39, 3) := by decide +kernel
theorem dX11_laidOnes_9 : decode cX11_laidOnes 9 = .ok (.iconst 3, 1) := by decide +kernel
theorem dX11_laidOnes_10 : decode cX11_laidOnes 10 = .ok (.iaload, 1) := by decide +kernel
theorem dX11_laidOnes_11 : decode cX11_laidOnes 11 = .ok (.if_icmp .ge 27, 3) := by decide +kernel
theorem dX11_laidOnes_38 : decode cX11_laidOnes 38 = .ok (.iload_n 1, 1) := by decide +kernel
theorem dX11_laidOnes_39 : decode cX11_laidOnes 39 = .ok (.ireturn, 1) := by decide +kernel
set_option maxHeartbeats 4000000 in
set_option maxRecDepth 100000 in
theorem r_isTown (l : Launch) (D : va_G) (K : Nat → ClassId) (h0 : Nat) (m_tape : Nat) (m_sign : Nat) (m_length : Nat) (m_clause : Nat) (m_clauses : Nat) (m_read : Nat) (m_open : Nat) (m_stack : Nat) (m_word : Nat) (m_said : Nat) (m_goesTo : Nat) (m_hadBy : Nat) (m_wasSaid : Nat) (m_kept : Nat) (m_hasBy : Nat) (m_standsThen : Nat) (m_isFit : Nat) (m_cornerThen : Nat) (m_images : Nat) (m_imageForce : Nat) (m_imageX : Nat) (m_isMade : Nat) : mI (S := mU) l yX11_isTown cX11_isTown 1 .boolean ({ frames := 0, cells := 0, slots := 0, locals := 0 }) D K [(h0, .inr (11, [.ref m_tape, .int 0, .int 0, .ref m_sign, .ref m_length, .ref m_clause, .ref m_clauses, .ref m_read, .int 0, .int 0, .int 0, .int 0, .int 0, .int 0, .int 0, .ref m_open, .int 0, .ref m_stack, .int 0, .ref m_word, .ref m_said, .int (-1), .int 0, .ref m_goesTo, .ref m_hadBy, .ref m_wasSaid, .int 0, .ref m_kept, .ref m_hasBy, .ref m_standsThen, .ref m_isFit, .ref m_cornerThen, .long 0, .ref m_images, .ref m_imageForce, .ref m_imageX, .ref m_isMade])), (m_said, .inl (K 0, 127, .inl (fun _ => 0)))] [.ref h0] (fun r u => r = 0) (fun u => []) := by
  refine m_enterI (by decide) (Nat.le_of_ble_eq_true rfl) ?_
  intro p e s m args below meth c A ls E hr G hl
  have E : mE p s m meth c cX11_isTown args 1 RX11 D K A := E
  have hl : lv_has ls 1 [(0, .ref h0)] := hl
  obtain ⟨H, hH⟩ : ∃ H, H = s.heap := ⟨_, rfl⟩
  obtain ⟨locs, hlo⟩ : ∃ L : List Loc, L = [] := ⟨_, rfl⟩
  rw [← hH, ← hlo] at G
  rw [← hH, ← hlo]
  have G : mG D A s H locs [(h0, .inr (11, [.ref m_tape, .int 0, .int 0, .ref m_sign, .ref m_length, .ref m_clause, .ref m_clauses, .ref m_read, .int 0, .int 0, .int 0, .int 0, .int 0, .int 0, .int 0, .ref m_open, .int 0, .ref m_stack, .int 0, .ref m_word, .ref m_said, .int (-1), .int 0, .ref m_goesTo, .ref m_hadBy, .ref m_wasSaid, .int 0, .ref m_kept, .ref m_hasBy, .ref m_standsThen, .ref m_isFit, .ref m_cornerThen, .long 0, .ref m_images, .ref m_imageForce, .ref m_imageX, .ref m_isMade])), (m_said, .inl (K 0, 127, .inl (fun _ => 0)))] := G
  clear hH hlo
  refine lv_aload_n E.1 E.2.1 dX11_isTown_0 rfl (lv_at hl 0 rfl) ?_
  refine m_get E G 0 (ci := 11) rfl 20 (C := RX11) (T := TX11) (N := 37) rfl (by decide) mw_fl_11_39 (v := .ref m_said) rfl dX11_isTown_1 ?_
  refine lv_iconst (v := 0) E.1 E.2.1 dX11_isTown_4 (by decide) ?_
  refine m_iald E G 1 rfl (by unfold vp_in; decide) dX11_isTown_5 ?_
  refine m_ci 0 rfl ?_
  refine lv_iconst (v := 1) E.1 E.2.1 dX11_isTown_6 (by decide) ?_
  refine lv_icmp_ne (tgt := 14) E.1 E.2.1 dX11_isTown_7 (by decide) (fun _ => ?_) (fun h => absurd h (by decide))
  refine lv_iconst (v := 0) E.1 E.2.1 dX11_isTown_14 (by decide) ?_
  exact m_reti E G hr (by decide) (fun _ => 0, fun _ _ => 0, fun _ _ => none) rfl [] (by decide) rfl (by decide) (by decide) dX11_isTown_15
set_option maxHeartbeats 4000000 in
set_option maxRecDepth 100000 in
theorem r_isCorner (l : Launch) (D : va_G) (K : Nat → ClassId) (h0 : Nat) (m_tape : Nat) (m_sign : Nat) (m_length : Nat) (m_clause : Nat) (m_clauses : Nat) (m_read : Nat) (m_open : Nat) (m_stack : Nat) (m_word : Nat) (m_said : Nat) (m_goesTo : Nat) (m_hadBy : Nat) (m_wasSaid : Nat) (m_kept : Nat) (m_hasBy : Nat) (m_standsThen : Nat) (m_isFit : Nat) (m_cornerThen : Nat) (m_images : Nat) (m_imageForce : Nat) (m_imageX : Nat) (m_isMade : Nat) (p1 : Int32) : mI (S := mU) l yX11_isCorner cX11_isCorner 2 .boolean ({ frames := 0, cells := 0, slots := 0, locals := 0 }) D K [(h0, .inr (11, [.ref m_tape, .int 0, .int 0, .ref m_sign, .ref m_length, .ref m_clause, .ref m_clauses, .ref m_read, .int 0, .int 0, .int 0, .int 0, .int 0, .int 0, .int 0, .ref m_open, .int 0, .ref m_stack, .int 0, .ref m_word, .ref m_said, .int (-1), .int 0, .ref m_goesTo, .ref m_hadBy, .ref m_wasSaid, .int 0, .ref m_kept, .ref m_hasBy, .ref m_standsThen, .ref m_isFit, .ref m_cornerThen, .long 0, .ref m_images, .ref m_imageForce, .ref m_imageX, .ref m_isMade])), (m_said, .inl (K 0, 127, .inl (fun _ => 0)))] [.ref h0, .int p1] (fun r u => r = 0) (fun u => []) := by
  refine m_enterI (by decide) (Nat.le_of_ble_eq_true rfl) ?_
  intro p e s m args below meth c A ls E hr G hl
  have E : mE p s m meth c cX11_isCorner args 2 RX11 D K A := E
  have hl : lv_has ls 2 [(0, .ref h0), (1, .int p1)] := hl
  obtain ⟨H, hH⟩ : ∃ H, H = s.heap := ⟨_, rfl⟩
  obtain ⟨locs, hlo⟩ : ∃ L : List Loc, L = [] := ⟨_, rfl⟩
  rw [← hH, ← hlo] at G
  rw [← hH, ← hlo]
  have G : mG D A s H locs [(h0, .inr (11, [.ref m_tape, .int 0, .int 0, .ref m_sign, .ref m_length, .ref m_clause, .ref m_clauses, .ref m_read, .int 0, .int 0, .int 0, .int 0, .int 0, .int 0, .int 0, .ref m_open, .int 0, .ref m_stack, .int 0, .ref m_word, .ref m_said, .int (-1), .int 0, .ref m_goesTo, .ref m_hadBy, .ref m_wasSaid, .int 0, .ref m_kept, .ref m_hasBy, .ref m_standsThen, .ref m_isFit, .ref m_cornerThen, .long 0, .ref m_images, .ref m_imageForce, .ref m_imageX, .ref m_isMade])), (m_said, .inl (K 0, 127, .inl (fun _ => 0)))] := G
  clear hH hlo
  refine lv_iload_n E.1 E.2.1 dX11_isCorner_0 rfl (lv_at hl 1 rfl) ?_
  refine lv_if_lt (tgt := 18) E.1 E.2.1 dX11_isCorner_1 (by decide) (fun c_1 => ?_) (fun c_1 => ?_)
  · skip
    refine lv_iconst (v := 0) E.1 E.2.1 dX11_isCorner_18 (by decide) ?_
    exact m_reti E G hr (by decide) (fun _ => 0, fun _ _ => 0, fun _ _ => none) rfl [] (by decide) rfl (by decide) (by decide) dX11_isCorner_19
  · skip
    refine lv_iload_n E.1 E.2.1 dX11_isCorner_4 rfl (lv_at hl 1 rfl) ?_
    refine lv_aload_n E.1 E.2.1 dX11_isCorner_5 rfl (lv_at hl 0 rfl) ?_
    refine m_get E G 0 (ci := 11) rfl 20 (C := RX11) (T := TX11) (N := 37) rfl (by decide) mw_fl_11_39 (v := .ref m_said) rfl dX11_isCorner_6 ?_
    refine lv_iconst (v := 1) E.1 E.2.1 dX11_isCorner_9 (by decide) ?_
    refine m_iald E G 1 rfl (by unfold vp_in; decide) dX11_isCorner_10 ?_
    refine m_ci 0 rfl ?_
    refine lv_icmp_ge (tgt := 18) E.1 E.2.1 dX11_isCorner_11 (by decide) (fun _ => ?_) (fun h => absurd (Int32.not_lt.mp c_1) h)
    refine lv_iconst (v := 0) E.1 E.2.1 dX11_isCorner_18 (by decide) ?_
    exact m_reti E G hr (by decide) (fun _ => 0, fun _ _ => 0, fun _ _ => none) rfl [] (by decide) rfl (by decide) (by decide) dX11_isCorner_19
set_option maxHeartbeats 4000000 in
set_option maxRecDepth 100000 in
theorem r_isLure (l : Launch) (D : va_G) (K : Nat → ClassId) (h0 : Nat) (m_tape : Nat) (m_sign : Nat) (m_length : Nat) (m_clause : Nat) (m_clauses : Nat) (m_read : Nat) (m_open : Nat) (m_stack : Nat) (m_word : Nat) (m_said : Nat) (m_goesTo : Nat) (m_hadBy : Nat) (m_wasSaid : Nat) (m_kept : Nat) (m_hasBy : Nat) (m_standsThen : Nat) (m_isFit : Nat) (m_cornerThen : Nat) (m_images : Nat) (m_imageForce : Nat) (m_imageX : Nat) (m_isMade : Nat) (p1 : Int32) : mI (S := mU) l yX11_isLure cX11_isLure 2 .boolean ({ frames := 0, cells := 0, slots := 0, locals := 0 }) D K [(h0, .inr (11, [.ref m_tape, .int 0, .int 0, .ref m_sign, .ref m_length, .ref m_clause, .ref m_clauses, .ref m_read, .int 0, .int 0, .int 0, .int 0, .int 0, .int 0, .int 0, .ref m_open, .int 0, .ref m_stack, .int 0, .ref m_word, .ref m_said, .int (-1), .int 0, .ref m_goesTo, .ref m_hadBy, .ref m_wasSaid, .int 0, .ref m_kept, .ref m_hasBy, .ref m_standsThen, .ref m_isFit, .ref m_cornerThen, .long 0, .ref m_images, .ref m_imageForce, .ref m_imageX, .ref m_isMade])), (m_said, .inl (K 0, 127, .inl (fun _ => 0)))] [.ref h0, .int p1] (fun r u => r = 0) (fun u => []) := by
  refine m_enterI (by decide) (Nat.le_of_ble_eq_true rfl) ?_
  intro p e s m args below meth c A ls E hr G hl
  have E : mE p s m meth c cX11_isLure args 2 RX11 D K A := E
  have hl : lv_has ls 2 [(0, .ref h0), (1, .int p1)] := hl
  obtain ⟨H, hH⟩ : ∃ H, H = s.heap := ⟨_, rfl⟩
  obtain ⟨locs, hlo⟩ : ∃ L : List Loc, L = [] := ⟨_, rfl⟩
  rw [← hH, ← hlo] at G
  rw [← hH, ← hlo]
  have G : mG D A s H locs [(h0, .inr (11, [.ref m_tape, .int 0, .int 0, .ref m_sign, .ref m_length, .ref m_clause, .ref m_clauses, .ref m_read, .int 0, .int 0, .int 0, .int 0, .int 0, .int 0, .int 0, .ref m_open, .int 0, .ref m_stack, .int 0, .ref m_word, .ref m_said, .int (-1), .int 0, .ref m_goesTo, .ref m_hadBy, .ref m_wasSaid, .int 0, .ref m_kept, .ref m_hasBy, .ref m_standsThen, .ref m_isFit, .ref m_cornerThen, .long 0, .ref m_images, .ref m_imageForce, .ref m_imageX, .ref m_isMade])), (m_said, .inl (K 0, 127, .inl (fun _ => 0)))] := G
  clear hH hlo
  refine lv_iload_n E.1 E.2.1 dX11_isLure_0 rfl (lv_at hl 1 rfl) ?_
  refine lv_if_lt (tgt := 18) E.1 E.2.1 dX11_isLure_1 (by decide) (fun c_1 => ?_) (fun c_1 => ?_)
  · skip
    refine lv_iconst (v := 0) E.1 E.2.1 dX11_isLure_18 (by decide) ?_
    exact m_reti E G hr (by decide) (fun _ => 0, fun _ _ => 0, fun _ _ => none) rfl [] (by decide) rfl (by decide) (by decide) dX11_isLure_19
  · skip
    refine lv_iload_n E.1 E.2.1 dX11_isLure_4 rfl (lv_at hl 1 rfl) ?_
    refine lv_aload_n E.1 E.2.1 dX11_isLure_5 rfl (lv_at hl 0 rfl) ?_
    refine m_get E G 0 (ci := 11) rfl 20 (C := RX11) (T := TX11) (N := 37) rfl (by decide) mw_fl_11_39 (v := .ref m_said) rfl dX11_isLure_6 ?_
    refine lv_iconst (v := 3) E.1 E.2.1 dX11_isLure_9 (by decide) ?_
    refine m_iald E G 1 rfl (by unfold vp_in; decide) dX11_isLure_10 ?_
    refine m_ci 0 rfl ?_
    refine lv_icmp_ge (tgt := 18) E.1 E.2.1 dX11_isLure_11 (by decide) (fun _ => ?_) (fun h => absurd (Int32.not_lt.mp c_1) h)
    refine lv_iconst (v := 0) E.1 E.2.1 dX11_isLure_18 (by decide) ?_
    exact m_reti E G hr (by decide) (fun _ => 0, fun _ _ => 0, fun _ _ => none) rfl [] (by decide) rfl (by decide) (by decide) dX11_isLure_19
set_option maxHeartbeats 4000000 in
set_option maxRecDepth 100000 in
theorem r_isWalker (l : Launch) (D : va_G) (K : Nat → ClassId) (h0 : Nat) (m_tape : Nat) (m_sign : Nat) (m_length : Nat) (m_clause : Nat) (m_clauses : Nat) (m_read : Nat) (m_open : Nat) (m_stack : Nat) (m_word : Nat) (m_said : Nat) (m_goesTo : Nat) (m_hadBy : Nat) (m_wasSaid : Nat) (m_kept : Nat) (m_hasBy : Nat) (m_standsThen : Nat) (m_isFit : Nat) (m_cornerThen : Nat) (m_images : Nat) (m_imageForce : Nat) (m_imageX : Nat) (m_isMade : Nat) (p1 : Int32) : mI (S := mU) l yX11_isWalker cX11_isWalker 2 .boolean ({ frames := 0, cells := 0, slots := 0, locals := 0 }) D K [(h0, .inr (11, [.ref m_tape, .int 0, .int 0, .ref m_sign, .ref m_length, .ref m_clause, .ref m_clauses, .ref m_read, .int 0, .int 0, .int 0, .int 0, .int 0, .int 0, .int 0, .ref m_open, .int 0, .ref m_stack, .int 0, .ref m_word, .ref m_said, .int (-1), .int 0, .ref m_goesTo, .ref m_hadBy, .ref m_wasSaid, .int 0, .ref m_kept, .ref m_hasBy, .ref m_standsThen, .ref m_isFit, .ref m_cornerThen, .long 0, .ref m_images, .ref m_imageForce, .ref m_imageX, .ref m_isMade])), (m_said, .inl (K 0, 127, .inl (fun _ => 0)))] [.ref h0, .int p1] (fun r u => r = 0) (fun u => []) := by
  refine m_enterI (by decide) (Nat.le_of_ble_eq_true rfl) ?_
  intro p e s m args below meth c A ls E hr G hl
  have E : mE p s m meth c cX11_isWalker args 2 RX11 D K A := E
  have hl : lv_has ls 2 [(0, .ref h0), (1, .int p1)] := hl
  obtain ⟨H, hH⟩ : ∃ H, H = s.heap := ⟨_, rfl⟩
  obtain ⟨locs, hlo⟩ : ∃ L : List Loc, L = [] := ⟨_, rfl⟩
  rw [← hH, ← hlo] at G
  rw [← hH, ← hlo]
  have G : mG D A s H locs [(h0, .inr (11, [.ref m_tape, .int 0, .int 0, .ref m_sign, .ref m_length, .ref m_clause, .ref m_clauses, .ref m_read, .int 0, .int 0, .int 0, .int 0, .int 0, .int 0, .int 0, .ref m_open, .int 0, .ref m_stack, .int 0, .ref m_word, .ref m_said, .int (-1), .int 0, .ref m_goesTo, .ref m_hadBy, .ref m_wasSaid, .int 0, .ref m_kept, .ref m_hasBy, .ref m_standsThen, .ref m_isFit, .ref m_cornerThen, .long 0, .ref m_images, .ref m_imageForce, .ref m_imageX, .ref m_isMade])), (m_said, .inl (K 0, 127, .inl (fun _ => 0)))] := G
  clear hH hlo
  refine lv_iload_n E.1 E.2.1 dX11_isWalker_0 rfl (lv_at hl 1 rfl) ?_
  refine lv_if_lt (tgt := 18) E.1 E.2.1 dX11_isWalker_1 (by decide) (fun c_1 => ?_) (fun c_1 => ?_)
  · skip
    refine lv_iconst (v := 0) E.1 E.2.1 dX11_isWalker_18 (by decide) ?_
    exact m_reti E G hr (by decide) (fun _ => 0, fun _ _ => 0, fun _ _ => none) rfl [] (by decide) rfl (by decide) (by decide) dX11_isWalker_19
  · skip
    refine lv_iload_n E.1 E.2.1 dX11_isWalker_4 rfl (lv_at hl 1 rfl) ?_
    refine lv_aload_n E.1 E.2.1 dX11_isWalker_5 rfl (lv_at hl 0 rfl) ?_
    refine m_get E G 0 (ci := 11) rfl 20 (C := RX11) (T := TX11) (N := 37) rfl (by decide) mw_fl_11_39 (v := .ref m_said) rfl dX11_isWalker_6 ?_
    refine lv_iconst (v := 4) E.1 E.2.1 dX11_isWalker_9 (by decide) ?_
    refine m_iald E G 1 rfl (by unfold vp_in; decide) dX11_isWalker_10 ?_
    refine m_ci 0 rfl ?_
    refine lv_icmp_ge (tgt := 18) E.1 E.2.1 dX11_isWalker_11 (by decide) (fun _ => ?_) (fun h => absurd (Int32.not_lt.mp c_1) h)
    refine lv_iconst (v := 0) E.1 E.2.1 dX11_isWalker_18 (by decide) ?_
    exact m_reti E G hr (by decide) (fun _ => 0, fun _ _ => 0, fun _ _ => none) rfl [] (by decide) rfl (by decide) (by decide) dX11_isWalker_19
set_option maxHeartbeats 4000000 in
set_option maxRecDepth 100000 in
theorem r_isRule (l : Launch) (D : va_G) (K : Nat → ClassId) (h0 : Nat) (m_tape : Nat) (m_sign : Nat) (m_length : Nat) (m_clause : Nat) (m_clauses : Nat) (m_read : Nat) (m_open : Nat) (m_stack : Nat) (m_word : Nat) (m_said : Nat) (m_goesTo : Nat) (m_hadBy : Nat) (m_wasSaid : Nat) (m_kept : Nat) (m_hasBy : Nat) (m_standsThen : Nat) (m_isFit : Nat) (m_cornerThen : Nat) (m_images : Nat) (m_imageForce : Nat) (m_imageX : Nat) (m_isMade : Nat) (p1 : Int32) : mI (S := mU) l yX11_isRule cX11_isRule 2 .boolean ({ frames := 0, cells := 0, slots := 0, locals := 0 }) D K [(h0, .inr (11, [.ref m_tape, .int 0, .int 0, .ref m_sign, .ref m_length, .ref m_clause, .ref m_clauses, .ref m_read, .int 0, .int 0, .int 0, .int 0, .int 0, .int 0, .int 0, .ref m_open, .int 0, .ref m_stack, .int 0, .ref m_word, .ref m_said, .int (-1), .int 0, .ref m_goesTo, .ref m_hadBy, .ref m_wasSaid, .int 0, .ref m_kept, .ref m_hasBy, .ref m_standsThen, .ref m_isFit, .ref m_cornerThen, .long 0, .ref m_images, .ref m_imageForce, .ref m_imageX, .ref m_isMade]))] [.ref h0, .int p1] (fun r u => r = 0) (fun u => []) := by
  refine m_enterI (by decide) (Nat.le_of_ble_eq_true rfl) ?_
  intro p e s m args below meth c A ls E hr G hl
  have E : mE p s m meth c cX11_isRule args 2 RX11 D K A := E
  have hl : lv_has ls 2 [(0, .ref h0), (1, .int p1)] := hl
  obtain ⟨H, hH⟩ : ∃ H, H = s.heap := ⟨_, rfl⟩
  obtain ⟨locs, hlo⟩ : ∃ L : List Loc, L = [] := ⟨_, rfl⟩
  rw [← hH, ← hlo] at G
  rw [← hH, ← hlo]
  have G : mG D A s H locs [(h0, .inr (11, [.ref m_tape, .int 0, .int 0, .ref m_sign, .ref m_length, .ref m_clause, .ref m_clauses, .ref m_read, .int 0, .int 0, .int 0, .int 0, .int 0, .int 0, .int 0, .ref m_open, .int 0, .ref m_stack, .int 0, .ref m_word, .ref m_said, .int (-1), .int 0, .ref m_goesTo, .ref m_hadBy, .ref m_wasSaid, .int 0, .ref m_kept, .ref m_hasBy, .ref m_standsThen, .ref m_isFit, .ref m_cornerThen, .long 0, .ref m_images, .ref m_imageForce, .ref m_imageX, .ref m_isMade]))] := G
  clear hH hlo
  refine lv_iload_n E.1 E.2.1 dX11_isRule_0 rfl (lv_at hl 1 rfl) ?_
  refine lv_if_lt (tgt := 16) E.1 E.2.1 dX11_isRule_1 (by decide) (fun c_1 => ?_) (fun c_1 => ?_)
  · skip
    refine lv_iconst (v := 0) E.1 E.2.1 dX11_isRule_16 (by decide) ?_
    exact m_reti E G hr (by decide) (fun _ => 0, fun _ _ => 0, fun _ _ => none) rfl [] (by decide) rfl (by decide) (by decide) dX11_isRule_17
  · skip
    refine lv_iload_n E.1 E.2.1 dX11_isRule_4 rfl (lv_at hl 1 rfl) ?_
    refine lv_aload_n E.1 E.2.1 dX11_isRule_5 rfl (lv_at hl 0 rfl) ?_
    refine m_get E G 0 (ci := 11) rfl 2 (C := RX11) (T := TX11) (N := 37) rfl (by decide) mw_fl_11_258 (v := .int 0) rfl dX11_isRule_6 ?_
    refine lv_icmp_ge (tgt := 16) E.1 E.2.1 dX11_isRule_9 (by decide) (fun _ => ?_) (fun h => absurd (Int32.not_lt.mp c_1) h)
    refine lv_iconst (v := 0) E.1 E.2.1 dX11_isRule_16 (by decide) ?_
    exact m_reti E G hr (by decide) (fun _ => 0, fun _ _ => 0, fun _ _ => none) rfl [] (by decide) rfl (by decide) (by decide) dX11_isRule_17
set_option maxHeartbeats 4000000 in
set_option maxRecDepth 100000 in
theorem r_in (l : Launch) (D : va_G) (K : Nat → ClassId) (v : Int64) (a : Int64) (b : Int64) : mI (S := mU) l yX11_in cX11_in 6 .boolean ({ frames := 0, cells := 0, slots := 0, locals := 0 }) D K [] [.long v, .long a, .long b] (fun r u => r = ans_in v a b) (fun u => []) := by
  refine m_enterI (by decide) (Nat.le_of_ble_eq_true rfl) ?_
  intro p e s m args below meth c A ls E hr G hl
  have E : mE p s m meth c cX11_in args 6 RX11 D K A := E
  have hl : lv_has ls 6 [(0, .long v), (2, .long a), (4, .long b)] := hl
  obtain ⟨H, hH⟩ : ∃ H, H = s.heap := ⟨_, rfl⟩
  obtain ⟨locs, hlo⟩ : ∃ L : List Loc, L = [] := ⟨_, rfl⟩
  rw [← hH, ← hlo] at G
  rw [← hH, ← hlo]
  have G : mG D A s H locs [] := G
  clear hH hlo
  refine lv_lload_n E.1 E.2.1 dX11_in_0 rfl (lv_at hl 0 rfl) ?_
  refine lv_lload_n E.1 E.2.1 dX11_in_1 rfl (lv_at hl 1 rfl) ?_
  refine W.lcmp E.1 E.2.1 dX11_in_2 ?_
  refine lv_if_lt (tgt := 17) E.1 E.2.1 dX11_in_3 (by decide) (fun c_1 => ?_) (fun c_1 => ?_)
  · skip
    refine lv_iconst (v := 0) E.1 E.2.1 dX11_in_17 (by decide) ?_
    exact m_reti E G hr (by decide) (fun _ => 0, fun _ _ => 0, fun _ _ => none) (by first | exact ans_in_1 ‹_› | exact ans_in_2 ‹_› ‹_› | exact ans_in_3 ‹_› ‹_›) [] (by decide) rfl (by decide) (by decide) dX11_in_18
  · skip
    refine lv_lload_n E.1 E.2.1 dX11_in_6 rfl (lv_at hl 0 rfl) ?_
    refine lv_lload E.1 E.2.1 dX11_in_7 (lv_at hl 2 rfl) ?_
    refine W.lcmp E.1 E.2.1 dX11_in_9 ?_
    refine lv_if_gt (tgt := 17) E.1 E.2.1 dX11_in_10 (by decide) (fun c_2 => ?_) (fun c_2 => ?_)
    · skip
      refine lv_iconst (v := 0) E.1 E.2.1 dX11_in_17 (by decide) ?_
      exact m_reti E G hr (by decide) (fun _ => 0, fun _ _ => 0, fun _ _ => none) (by first | exact ans_in_1 ‹_› | exact ans_in_2 ‹_› ‹_› | exact ans_in_3 ‹_› ‹_›) [] (by decide) rfl (by decide) (by decide) dX11_in_18
    · skip
      refine lv_iconst (v := 1) E.1 E.2.1 dX11_in_13 (by decide) ?_
      refine lv_goto (tgt := 18) E.1 E.2.1 dX11_in_14 (by decide) ?_
      exact m_reti E G hr (by decide) (fun _ => 0, fun _ _ => 0, fun _ _ => none) (by first | exact ans_in_1 ‹_› | exact ans_in_2 ‹_› ‹_› | exact ans_in_3 ‹_› ‹_›) [] (by decide) rfl (by decide) (by decide) dX11_in_18
set_option maxHeartbeats 4000000 in
set_option maxRecDepth 100000 in
theorem r_laidOnes (l : Launch) (D : va_G) (K : Nat → ClassId) (h0 : Nat) (m_tape : Nat) (m_sign : Nat) (m_length : Nat) (m_clause : Nat) (m_clauses : Nat) (m_read : Nat) (m_open : Nat) (m_stack : Nat) (m_word : Nat) (m_said : Nat) (m_goesTo : Nat) (m_hadBy : Nat) (m_wasSaid : Nat) (m_kept : Nat) (m_hasBy : Nat) (m_standsThen : Nat) (m_isFit : Nat) (m_cornerThen : Nat) (m_images : Nat) (m_imageForce : Nat) (m_imageX : Nat) (m_isMade : Nat) : mI (S := mU) l yX11_laidOnes cX11_laidOnes 3 .int ({ frames := 0, cells := 0, slots := 0, locals := 0 }) D K [(h0, .inr (11, [.ref m_tape, .int 0, .int 0, .ref m_sign, .ref m_length, .ref m_clause, .ref m_clauses, .ref m_read, .int 0, .int 0, .int 0, .int 0, .int 0, .int 0, .int 0, .ref m_open, .int 0, .ref m_stack, .int 0, .ref m_word, .ref m_said, .int (-1), .int 0, .ref m_goesTo, .ref m_hadBy, .ref m_wasSaid, .int 0, .ref m_kept, .ref m_hasBy, .ref m_standsThen, .ref m_isFit, .ref m_cornerThen, .long 0, .ref m_images, .ref m_imageForce, .ref m_imageX, .ref m_isMade])), (m_said, .inl (K 0, 127, .inl (fun _ => 0)))] [.ref h0] (fun r u => r = 0) (fun u => []) := by
  refine m_enterI (by decide) (Nat.le_of_ble_eq_true rfl) ?_
  intro p e s m args below meth c A ls E hr G hl
  have E : mE p s m meth c cX11_laidOnes args 3 RX11 D K A := E
  have hl : lv_has ls 3 [(0, .ref h0)] := hl
  obtain ⟨H, hH⟩ : ∃ H, H = s.heap := ⟨_, rfl⟩
  obtain ⟨locs, hlo⟩ : ∃ L : List Loc, L = [] := ⟨_, rfl⟩
  rw [← hH, ← hlo] at G
  rw [← hH, ← hlo]
  have G : mG D A s H locs [(h0, .inr (11, [.ref m_tape, .int 0, .int 0, .ref m_sign, .ref m_length, .ref m_clause, .ref m_clauses, .ref m_read, .int 0, .int 0, .int 0, .int 0, .int 0, .int 0, .int 0, .ref m_open, .int 0, .ref m_stack, .int 0, .ref m_word, .ref m_said, .int (-1), .int 0, .ref m_goesTo, .ref m_hadBy, .ref m_wasSaid, .int 0, .ref m_kept, .ref m_hasBy, .ref m_standsThen, .ref m_isFit, .ref m_cornerThen, .long 0, .ref m_images, .ref m_imageForce, .ref m_imageX, .ref m_isMade])), (m_said, .inl (K 0, 127, .inl (fun _ => 0)))] := G
  clear hH hlo
  refine lv_iconst (v := 0) E.1 E.2.1 dX11_laidOnes_0 (by decide) ?_
  refine lv_istore_n (lv' := [(1, .int 0), (0, .ref h0)]) E.1 E.2.1 dX11_laidOnes_1 rfl hl (by decide) rfl (fun ls hl => ?_)
  refine lv_iconst (v := 0) E.1 E.2.1 dX11_laidOnes_2 (by decide) ?_
  refine lv_istore_n (lv' := [(2, .int 0), (1, .int 0), (0, .ref h0)]) E.1 E.2.1 dX11_laidOnes_3 rfl hl (by decide) rfl (fun ls hl => ?_)
  refine lv_iload_n E.1 E.2.1 dX11_laidOnes_4 rfl (lv_at hl 0 rfl) ?_
  refine lv_aload_n E.1 E.2.1 dX11_laidOnes_5 rfl (lv_at hl 2 rfl) ?_
  refine m_get E G 0 (ci := 11) rfl 20 (C := RX11) (T := TX11) (N := 37) rfl (by decide) mw_fl_11_39 (v := .ref m_said) rfl dX11_laidOnes_6 ?_
  refine lv_iconst (v := 3) E.1 E.2.1 dX11_laidOnes_9 (by decide) ?_
  refine m_iald E G 1 rfl (by unfold vp_in; decide) dX11_laidOnes_10 ?_
  refine m_ci 0 rfl ?_
  refine lv_icmp_ge (tgt := 38) E.1 E.2.1 dX11_laidOnes_11 (by decide) (fun _ => ?_) (fun h => absurd (by decide) h)
  refine lv_iload_n E.1 E.2.1 dX11_laidOnes_38 rfl (lv_at hl 1 rfl) ?_
  exact m_reti E G hr rfl (fun _ => 0, fun _ _ => 0, fun _ _ => none) rfl [] (by decide) rfl (by decide) (by decide) dX11_laidOnes_39
set_option maxHeartbeats 4000000 in
set_option maxRecDepth 100000 in
theorem r_homeOnes (l : Launch) (D : va_G) (K : Nat → ClassId) (h0 : Nat) (m_tape : Nat) (m_sign : Nat) (m_length : Nat) (m_clause : Nat) (m_clauses : Nat) (m_read : Nat) (m_open : Nat) (m_stack : Nat) (m_word : Nat) (m_said : Nat) (m_goesTo : Nat) (m_hadBy : Nat) (m_wasSaid : Nat) (m_kept : Nat) (m_hasBy : Nat) (m_standsThen : Nat) (m_isFit : Nat) (m_cornerThen : Nat) (m_images : Nat) (m_imageForce : Nat) (m_imageX : Nat) (m_isMade : Nat) : mI (S := mU) l yX11_homeOnes cX11_homeOnes 3 .int ({ frames := 0, cells := 0, slots := 0, locals := 0 }) D K [(h0, .inr (11, [.ref m_tape, .int 0, .int 0, .ref m_sign, .ref m_length, .ref m_clause, .ref m_clauses, .ref m_read, .int 0, .int 0, .int 0, .int 0, .int 0, .int 0, .int 0, .ref m_open, .int 0, .ref m_stack, .int 0, .ref m_word, .ref m_said, .int (-1), .int 0, .ref m_goesTo, .ref m_hadBy, .ref m_wasSaid, .int 0, .ref m_kept, .ref m_hasBy, .ref m_standsThen, .ref m_isFit, .ref m_cornerThen, .long 0, .ref m_images, .ref m_imageForce, .ref m_imageX, .ref m_isMade])), (m_said, .inl (K 0, 127, .inl (fun _ => 0)))] [.ref h0] (fun r u => r = 0) (fun u => []) := by
  refine m_enterI (by decide) (Nat.le_of_ble_eq_true rfl) ?_
  intro p e s m args below meth c A ls E hr G hl
  have E : mE p s m meth c cX11_homeOnes args 3 RX11 D K A := E
  have hl : lv_has ls 3 [(0, .ref h0)] := hl
  obtain ⟨H, hH⟩ : ∃ H, H = s.heap := ⟨_, rfl⟩
  obtain ⟨locs, hlo⟩ : ∃ L : List Loc, L = [] := ⟨_, rfl⟩
  rw [← hH, ← hlo] at G
  rw [← hH, ← hlo]
  have G : mG D A s H locs [(h0, .inr (11, [.ref m_tape, .int 0, .int 0, .ref m_sign, .ref m_length, .ref m_clause, .ref m_clauses, .ref m_read, .int 0, .int 0, .int 0, .int 0, .int 0, .int 0, .int 0, .ref m_open, .int 0, .ref m_stack, .int 0, .ref m_word, .ref m_said, .int (-1), .int 0, .ref m_goesTo, .ref m_hadBy, .ref m_wasSaid, .int 0, .ref m_kept, .ref m_hasBy, .ref m_standsThen, .ref m_isFit, .ref m_cornerThen, .long 0, .ref m_images, .ref m_imageForce, .ref m_imageX, .ref m_isMade])), (m_said, .inl (K 0, 127, .inl (fun _ => 0)))] := G
  clear hH hlo
  refine lv_iconst (v := 0) E.1 E.2.1 dX11_homeOnes_0 (by decide) ?_
  refine lv_istore_n (lv' := [(1, .int 0), (0, .ref h0)]) E.1 E.2.1 dX11_homeOnes_1 rfl hl (by decide) rfl (fun ls hl => ?_)
  refine lv_iconst (v := 0) E.1 E.2.1 dX11_homeOnes_2 (by decide) ?_
  refine lv_istore_n (lv' := [(2, .int 0), (1, .int 0), (0, .ref h0)]) E.1 E.2.1 dX11_homeOnes_3 rfl hl (by decide) rfl (fun ls hl => ?_)
  refine lv_iload_n E.1 E.2.1 dX11_homeOnes_4 rfl (lv_at hl 0 rfl) ?_
  refine lv_aload_n E.1 E.2.1 dX11_homeOnes_5 rfl (lv_at hl 2 rfl) ?_
  refine m_get E G 0 (ci := 11) rfl 20 (C := RX11) (T := TX11) (N := 37) rfl (by decide) mw_fl_11_39 (v := .ref m_said) rfl dX11_homeOnes_6 ?_
  refine lv_iconst (v := 4) E.1 E.2.1 dX11_homeOnes_9 (by decide) ?_
  refine m_iald E G 1 rfl (by unfold vp_in; decide) dX11_homeOnes_10 ?_
  refine m_ci 0 rfl ?_
  refine lv_icmp_ge (tgt := 47) E.1 E.2.1 dX11_homeOnes_11 (by decide) (fun _ => ?_) (fun h => absurd (by decide) h)
  refine lv_iload_n E.1 E.2.1 dX11_homeOnes_47 rfl (lv_at hl 1 rfl) ?_
  exact m_reti E G hr rfl (fun _ => 0, fun _ _ => 0, fun _ _ => none) rfl [] (by decide) rfl (by decide) (by decide) dX11_homeOnes_48
set_option maxHeartbeats 4000000 in
set_option maxRecDepth 100000 in
theorem r_charges (l : Launch) (D : va_G) (K : Nat → ClassId) (h0 : Nat) (m_tape : Nat) (m_sign : Nat) (m_length : Nat) (m_clause : Nat) (m_clauses : Nat) (m_read : Nat) (m_open : Nat) (m_stack : Nat) (m_word : Nat) (m_said : Nat) (m_goesTo : Nat) (m_hadBy : Nat) (m_wasSaid : Nat) (m_kept : Nat) (m_hasBy : Nat) (m_standsThen : Nat) (m_isFit : Nat) (m_cornerThen : Nat) (m_images : Nat) (m_imageForce : Nat) (m_imageX : Nat) (m_isMade : Nat) : mI (S := mU) l yX11_charges cX11_charges 3 .int ({ frames := 0, cells := 0, slots := 0, locals := 0 }) D K [(h0, .inr (11, [.ref m_tape, .int 0, .int 0, .ref m_sign, .ref m_length, .ref m_clause, .ref m_clauses, .ref m_read, .int 0, .int 0, .int 0, .int 0, .int 0, .int 0, .int 0, .ref m_open, .int 0, .ref m_stack, .int 0, .ref m_word, .ref m_said, .int (-1), .int 0, .ref m_goesTo, .ref m_hadBy, .ref m_wasSaid, .int 0, .ref m_kept, .ref m_hasBy, .ref m_standsThen, .ref m_isFit, .ref m_cornerThen, .long 0, .ref m_images, .ref m_imageForce, .ref m_imageX, .ref m_isMade])), (m_said, .inl (K 0, 127, .inl (fun _ => 0)))] [.ref h0] (fun r u => r = 0) (fun u => []) := by
  refine m_enterI (by decide) (Nat.le_of_ble_eq_true rfl) ?_
  intro p e s m args below meth c A ls E hr G hl
  have E : mE p s m meth c cX11_charges args 3 RX11 D K A := E
  have hl : lv_has ls 3 [(0, .ref h0)] := hl
  obtain ⟨H, hH⟩ : ∃ H, H = s.heap := ⟨_, rfl⟩
  obtain ⟨locs, hlo⟩ : ∃ L : List Loc, L = [] := ⟨_, rfl⟩
  rw [← hH, ← hlo] at G
  rw [← hH, ← hlo]
  have G : mG D A s H locs [(h0, .inr (11, [.ref m_tape, .int 0, .int 0, .ref m_sign, .ref m_length, .ref m_clause, .ref m_clauses, .ref m_read, .int 0, .int 0, .int 0, .int 0, .int 0, .int 0, .int 0, .ref m_open, .int 0, .ref m_stack, .int 0, .ref m_word, .ref m_said, .int (-1), .int 0, .ref m_goesTo, .ref m_hadBy, .ref m_wasSaid, .int 0, .ref m_kept, .ref m_hasBy, .ref m_standsThen, .ref m_isFit, .ref m_cornerThen, .long 0, .ref m_images, .ref m_imageForce, .ref m_imageX, .ref m_isMade])), (m_said, .inl (K 0, 127, .inl (fun _ => 0)))] := G
  clear hH hlo
  refine lv_iconst (v := 0) E.1 E.2.1 dX11_charges_0 (by decide) ?_
  refine lv_istore_n (lv' := [(1, .int 0), (0, .ref h0)]) E.1 E.2.1 dX11_charges_1 rfl hl (by decide) rfl (fun ls hl => ?_)
  refine lv_iconst (v := 0) E.1 E.2.1 dX11_charges_2 (by decide) ?_
  refine lv_istore_n (lv' := [(2, .int 0), (1, .int 0), (0, .ref h0)]) E.1 E.2.1 dX11_charges_3 rfl hl (by decide) rfl (fun ls hl => ?_)
  refine lv_iload_n E.1 E.2.1 dX11_charges_4 rfl (lv_at hl 0 rfl) ?_
  refine lv_aload_n E.1 E.2.1 dX11_charges_5 rfl (lv_at hl 2 rfl) ?_
  refine m_get E G 0 (ci := 11) rfl 20 (C := RX11) (T := TX11) (N := 37) rfl (by decide) mw_fl_11_39 (v := .ref m_said) rfl dX11_charges_6 ?_
  refine lv_iconst (v := 4) E.1 E.2.1 dX11_charges_9 (by decide) ?_
  refine m_iald E G 1 rfl (by unfold vp_in; decide) dX11_charges_10 ?_
  refine m_ci 0 rfl ?_
  refine lv_icmp_ge (tgt := 28) E.1 E.2.1 dX11_charges_11 (by decide) (fun _ => ?_) (fun h => absurd (by decide) h)
  refine lv_iload_n E.1 E.2.1 dX11_charges_28 rfl (lv_at hl 1 rfl) ?_
  exact m_reti E G hr rfl (fun _ => 0, fun _ _ => 0, fun _ _ => none) rfl [] (by decide) rfl (by decide) (by decide) dX11_charges_29
