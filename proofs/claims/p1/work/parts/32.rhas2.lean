theorem mw_code_X11_isLure : (Cond.code yX11_isLure cX11_isLure 2 (some .boolean) : Cond) ∈ cw := cw_of (List.mem_append_right _ (List.mem_append_right _ (List.mem_append_right _ (List.mem_append_right _ (List.mem_append_right _ (List.mem_append_right _ (List.mem_append_left _ (List.mem_of_getElem? (i := 169) rfl)))))))) (by decide +kernel)
theorem mw_ini_11 : (Cond.initialized RX11 : Cond) ∈ cw := cw_of (List.mem_append_right _ (List.mem_append_left _ (List.mem_of_getElem? (i := 12) (by decide +kernel)))) (by decide +kernel)
theorem mw_inst_X11_isLure : (Cond.instanceMethod yX11_isLure : Cond) ∈ cw := cw_of (List.mem_append_right _ (List.mem_append_right _ (List.mem_append_right _ (List.mem_append_right _ (List.mem_append_right _ (List.mem_append_right _ (List.mem_append_left _ (List.mem_of_getElem? (i := 168) (by decide +kernel))))))))) (by decide +kernel)
theorem mw_ml_11_285 : (Cond.methodLink RX11 285 yX11_isLure : Cond) ∈ cw := cw_of (List.mem_append_right _ (List.mem_append_right _ (List.mem_append_right _ (List.mem_append_right _ (List.mem_append_right _ (List.mem_append_right _ (List.mem_append_left _ (List.mem_of_getElem? (i := 166) (by decide +kernel))))))))) (by decide +kernel)
theorem mw_sel_X11_isLure : (Cond.selects RX11 yX11_isLure yX11_isLure : Cond) ∈ cw := cw_of (List.mem_append_left _ (List.mem_of_getElem? (i := 81) (by decide +kernel))) (by decide +kernel)
theorem dX11_isLaid_0 : decode cX11_isLaid 0 = .ok (.aload_n 0, 1) := by decide +kernel
theorem dX11_isLaid_1 : decode cX11_isLaid 1 = .ok (.iload_n 1, 1) := by decide +kernel
theorem dX11_isLaid_2 : decode cX11_isLaid 2 = .ok (.invokevirtual 285, 3) := by decide +kernel
theorem dX11_isLaid_5 : decode cX11_isLaid 5 = .ok (.ifCond .eq 24, 3) := by decide +kernel
theorem dX11_isLaid_29 : decode cX11_isLaid 29 = .ok (.iconst 0, 1) := by decide +kernel
theorem dX11_isLaid_30 : decode cX11_isLaid 30 = .ok (.ireturn, 1) := by decide +kernel
theorem hd_X11_isLure : yX11_isLure.cls ≠ "java/lang/invoke/MethodHandle" ∧ yX11_isLure.cls ≠ "java/lang/invoke/VarHandle" ∧ (parseMethodDescriptor yX11_isLure.desc).map (fun d => d.parameters.length) = some 1 := ⟨by decide +kernel, by decide +kernel, by decide +kernel⟩
set_option maxHeartbeats 4000000 in
set_option maxRecDepth 100000 in
theorem r_isLaid (l : Launch) (D : va_G) (K : Nat → ClassId) (h0 : Nat) (m_tape : Nat) (m_sign : Nat) (m_length : Nat) (m_clause : Nat) (m_clauses : Nat) (m_read : Nat) (m_open : Nat) (m_stack : Nat) (m_word : Nat) (m_said : Nat) (m_goesTo : Nat) (m_hadBy : Nat) (m_wasSaid : Nat) (m_kept : Nat) (m_hasBy : Nat) (m_standsThen : Nat) (m_isFit : Nat) (m_cornerThen : Nat) (m_images : Nat) (m_imageForce : Nat) (m_imageX : Nat) (m_isMade : Nat) (p1 : Int32) : mI (S := mU) l yX11_isLaid cX11_isLaid 2 .boolean ({ frames := 1, cells := 0, slots := 0, locals := 21 }) D K [(h0, .inr (11, [.ref m_tape, .int 0, .int 0, .ref m_sign, .ref m_length, .ref m_clause, .ref m_clauses, .ref m_read, .int 0, .int 0, .int 0, .int 0, .int 0, .int 0, .int 0, .ref m_open, .int 0, .ref m_stack, .int 0, .ref m_word, .ref m_said, .int (-1), .int 0, .ref m_goesTo, .ref m_hadBy, .ref m_wasSaid, .int 0, .ref m_kept, .ref m_hasBy, .ref m_standsThen, .ref m_isFit, .ref m_cornerThen, .long 0, .ref m_images, .ref m_imageForce, .ref m_imageX, .ref m_isMade])), (m_said, .inl (K 0, 127, .inl (fun _ => 0)))] [.ref h0, .int p1] (fun r u => r = 0) (fun u => []) := by
  refine m_enterI (by decide) (Nat.le_of_ble_eq_true rfl) ?_
  intro p e s m args below meth c A ls E hr G hl
  have E : mE p s m meth c cX11_isLaid args 2 RX11 D K A := E
  have hl : lv_has ls 2 [(0, .ref h0), (1, .int p1)] := hl
  obtain ⟨H, hH⟩ : ∃ H, H = s.heap := ⟨_, rfl⟩
  obtain ⟨locs, hlo⟩ : ∃ L : List Loc, L = [] := ⟨_, rfl⟩
  rw [← hH, ← hlo] at G
  rw [← hH, ← hlo]
  have G : mG D A s H locs [(h0, .inr (11, [.ref m_tape, .int 0, .int 0, .ref m_sign, .ref m_length, .ref m_clause, .ref m_clauses, .ref m_read, .int 0, .int 0, .int 0, .int 0, .int 0, .int 0, .int 0, .ref m_open, .int 0, .ref m_stack, .int 0, .ref m_word, .ref m_said, .int (-1), .int 0, .ref m_goesTo, .ref m_hadBy, .ref m_wasSaid, .int 0, .ref m_kept, .ref m_hasBy, .ref m_standsThen, .ref m_isFit, .ref m_cornerThen, .long 0, .ref m_images, .ref m_imageForce, .ref m_imageX, .ref m_isMade])), (m_said, .inl (K 0, 127, .inl (fun _ => 0)))] := G
  clear hH hlo
  refine lv_aload_n E.1 E.2.1 dX11_isLaid_0 rfl (lv_at hl 0 rfl) ?_
  refine lv_iload_n E.1 E.2.1 dX11_isLaid_1 rfl (lv_at hl 1 rfl) ?_
  refine m_vi E G hl (r_isLure l D K h0 m_tape m_sign m_length m_clause m_clauses m_read m_open m_stack m_word m_said m_goesTo m_hadBy m_wasSaid m_kept m_hasBy m_standsThen m_isFit m_cornerThen m_images m_imageForce m_imageX m_isMade p1) (wr := []) [0, 1] [] rfl rfl (by decide) (by decide) (by decide) 0 (ci := 11) rfl rfl rfl 1 rfl mw_code_X11_isLure mw_ini_11 mw_ml_11_285 mw_inst_X11_isLure mw_sel_X11_isLure hd_X11_isLure ⟨by decide, by decide⟩ rfl (Nat.le_of_ble_eq_true rfl) ⟨by decide, by decide⟩ dX11_isLaid_2 (fun r_2 u_1 H locs hp G => ?_)
  have G : mG D A s H locs [] := G
  subst hp
  refine lv_if_eq (tgt := 29) E.1 E.2.1 dX11_isLaid_5 (by decide) (fun _ => ?_) (fun h => absurd (by decide) h)
  refine lv_iconst (v := 0) E.1 E.2.1 dX11_isLaid_29 (by decide) ?_
  exact m_reti E G hr (by decide) (fun _ => 0, fun _ _ => 0, fun _ _ => none) rfl [] (by decide) rfl (by decide) (by decide) dX11_isLaid_30
