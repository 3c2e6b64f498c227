theorem dX11_four_0 : decode cX11_four 0 = .ok (.bipush 24, 2) := by decide +kernel
theorem dX11_four_2 : decode cX11_four 2 = .ok (.istore_n 2, 1) := by decide +kernel
theorem dX11_four_3 : decode cX11_four 3 = .ok (.iload_n 2, 1) := by decide +kernel
theorem dX11_four_4 : decode cX11_four 4 = .ok (.ifCond .lt 32, 3) := by decide +kernel
theorem dX11_four_7 : decode cX11_four 7 = .ok (.aload_n 0, 1) := by decide +kernel
theorem dX11_four_8 : decode cX11_four 8 = .ok (.getfield 7, 3) := by decide +kernel
theorem dX11_four_11 : decode cX11_four 11 = .ok (.aload_n 0, 1) := by decide +kernel
theorem dX11_four_12 : decode cX11_four 12 = .ok (.getfield 83, 3) := by decide +kernel
theorem dX11_four_15 : decode cX11_four 15 = .ok (.iload_n 1, 1) := by decide +kernel
theorem dX11_four_16 : decode cX11_four 16 = .ok (.iload_n 2, 1) := by decide +kernel
theorem dX11_four_17 : decode cX11_four 17 = .ok (.ishr, 1) := by decide +kernel
theorem dX11_four_18 : decode cX11_four 18 = .ok (.i2b, 1) := by decide +kernel
theorem dX11_four_19 : decode cX11_four 19 = .ok (.bastore, 1) := by decide +kernel
theorem dX11_four_20 : decode cX11_four 20 = .ok (.aload_n 0, 1) := by decide +kernel
theorem dX11_four_21 : decode cX11_four 21 = .ok (.dup, 1) := by decide +kernel
theorem dX11_four_22 : decode cX11_four 22 = .ok (.getfield 83, 3) := by decide +kernel
theorem dX11_four_25 : decode cX11_four 25 = .ok (.iconst 1, 1) := by decide +kernel
theorem dX11_four_26 : decode cX11_four 26 = .ok (.iadd, 1) := by decide +kernel
theorem dX11_four_27 : decode cX11_four 27 = .ok (.putfield 83, 3) := by decide +kernel
theorem dX11_four_30 : decode cX11_four 30 = .ok (.iinc 2 (-8), 3) := by decide +kernel
theorem dX11_four_33 : decode cX11_four 33 = .ok (.goto (-30), 3) := by decide +kernel
theorem dX11_four_36 : decode cX11_four 36 = .ok (.return_, 1) := by decide +kernel
set_option maxHeartbeats 4000000 in
set_option maxRecDepth 100000 in
theorem r_four_0 (l : Launch) (D : va_G) (K : Nat → ClassId) (h0 : Nat) (m_tape : Nat) (m_sign : Nat) (m_length : Nat) (m_clause : Nat) (m_clauses : Nat) (m_read : Nat) (m_open : Nat) (m_stack : Nat) (m_word : Nat) (m_said : Nat) (m_goesTo : Nat) (m_hadBy : Nat) (m_wasSaid : Nat) (m_kept : Nat) (m_hasBy : Nat) (m_standsThen : Nat) (m_isFit : Nat) (m_cornerThen : Nat) (m_images : Nat) (m_imageForce : Nat) (m_imageX : Nat) (m_isMade : Nat) (f0 : Nat → Int32) (p1 : Int32) : mV (S := mU) l yX11_four cX11_four 3 ({ frames := 0, cells := 0, slots := 0, locals := 0 }) D K [(h0, .inr (11, [.ref m_tape, .int 0, .int 0, .ref m_sign, .ref m_length, .ref m_clause, .ref m_clauses, .ref m_read, .int 0, .int 0, .int 0, .int 0, .int 0, .int 0, .int 0, .ref m_open, .int 0, .ref m_stack, .int 0, .ref m_word, .ref m_said, .int (-1), .int 0, .ref m_goesTo, .ref m_hadBy, .ref m_wasSaid, .int 0, .ref m_kept, .ref m_hasBy, .ref m_standsThen, .ref m_isFit, .ref m_cornerThen, .long 0, .ref m_images, .ref m_imageForce, .ref m_imageX, .ref m_isMade])), (m_tape, .inl (K 1, 400, .inl f0))] [.ref h0, .int p1] (fun u => True) (fun u => [(h0, .inr (11, [.ref m_tape, .int 4, .int 0, .ref m_sign, .ref m_length, .ref m_clause, .ref m_clauses, .ref m_read, .int 0, .int 0, .int 0, .int 0, .int 0, .int 0, .int 0, .ref m_open, .int 0, .ref m_stack, .int 0, .ref m_word, .ref m_said, .int (-1), .int 0, .ref m_goesTo, .ref m_hadBy, .ref m_wasSaid, .int 0, .ref m_kept, .ref m_hasBy, .ref m_standsThen, .ref m_isFit, .ref m_cornerThen, .long 0, .ref m_images, .ref m_imageForce, .ref m_imageX, .ref m_isMade])), (m_tape, .inl (K 1, 400, .inl (u.2.1 0)))]) := by
  refine m_enterV (by decide) (Nat.le_of_ble_eq_true rfl) ?_
  intro p e s m args below meth c A ls E hr hN G hl
  have E : mE p s m meth c cX11_four args 3 RX11 D K A := E
  have hl : lv_has ls 3 [(0, .ref h0), (1, .int p1)] := hl
  obtain ⟨H, hH⟩ : ∃ H, H = s.heap := ⟨_, rfl⟩
  obtain ⟨locs, hlo⟩ : ∃ L : List Loc, L = [] := ⟨_, rfl⟩
  rw [← hH, ← hlo] at G
  rw [← hH, ← hlo]
  have G : mG D A s H locs [(h0, .inr (11, [.ref m_tape, .int 0, .int 0, .ref m_sign, .ref m_length, .ref m_clause, .ref m_clauses, .ref m_read, .int 0, .int 0, .int 0, .int 0, .int 0, .int 0, .int 0, .ref m_open, .int 0, .ref m_stack, .int 0, .ref m_word, .ref m_said, .int (-1), .int 0, .ref m_goesTo, .ref m_hadBy, .ref m_wasSaid, .int 0, .ref m_kept, .ref m_hasBy, .ref m_standsThen, .ref m_isFit, .ref m_cornerThen, .long 0, .ref m_images, .ref m_imageForce, .ref m_imageX, .ref m_isMade])), (m_tape, .inl (K 1, 400, .inl f0))] := G
  clear hH hlo
  refine lv_bipush (v := 24) E.1 E.2.1 dX11_four_0 (by decide) ?_
  refine lv_istore_n (lv' := [(2, .int 24), (0, .ref h0), (1, .int p1)]) E.1 E.2.1 dX11_four_2 rfl hl (by decide) rfl (fun ls hl => ?_)
  refine lv_iload_n E.1 E.2.1 dX11_four_3 rfl (lv_at hl 0 rfl) ?_
  refine lv_if_lt (tgt := 36) E.1 E.2.1 dX11_four_4 (by decide) (fun h => absurd h (by decide)) (fun _ => ?_)
  refine lv_aload_n E.1 E.2.1 dX11_four_7 rfl (lv_at hl 1 rfl) ?_
  refine m_get E G 0 (ci := 11) rfl 0 (C := RX11) (T := TX11) (N := 37) rfl (by decide) mw_fl_11_7 (v := .ref m_tape) rfl dX11_four_8 ?_
  refine lv_aload_n E.1 E.2.1 dX11_four_11 rfl (lv_at hl 1 rfl) ?_
  refine m_get E G 0 (ci := 11) rfl 1 (C := RX11) (T := TX11) (N := 37) rfl (by decide) mw_fl_11_83 (v := .int 0) rfl dX11_four_12 ?_
  refine lv_iload_n E.1 E.2.1 dX11_four_15 rfl (lv_at hl 2 rfl) ?_
  refine lv_iload_n E.1 E.2.1 dX11_four_16 rfl (lv_at hl 0 rfl) ?_
  refine lv_ishr E.1 E.2.1 dX11_four_17 ?_
  refine lv_i2b E.1 E.2.1 dX11_four_18 rfl ?_
  refine m_bast E G 1 rfl (by unfold vp_in; decide) dX11_four_19 (fun H locs G => ?_)
  obtain ⟨f_1, ef_1⟩ : ∃ f_1 : Nat → Int32, f_1 = (upd f0 (0 : Int32).toNatClampNeg (vp_nar .byte ((p1 >>> ((24 : Int32) &&& 31)).toInt8.toInt32))) := ⟨_, rfl⟩
  have G : mG D A s H locs [(h0, .inr (11, [.ref m_tape, .int 0, .int 0, .ref m_sign, .ref m_length, .ref m_clause, .ref m_clauses, .ref m_read, .int 0, .int 0, .int 0, .int 0, .int 0, .int 0, .int 0, .ref m_open, .int 0, .ref m_stack, .int 0, .ref m_word, .ref m_said, .int (-1), .int 0, .ref m_goesTo, .ref m_hadBy, .ref m_wasSaid, .int 0, .ref m_kept, .ref m_hasBy, .ref m_standsThen, .ref m_isFit, .ref m_cornerThen, .long 0, .ref m_images, .ref m_imageForce, .ref m_imageX, .ref m_isMade])), (m_tape, .inl (K 1, 400, .inl f_1))] := by subst ef_1; exact G
  clear ef_1
  refine lv_aload_n E.1 E.2.1 dX11_four_20 rfl (lv_at hl 1 rfl) ?_
  refine lv_dup E.1 E.2.1 dX11_four_21 rfl ?_
  refine m_get E G 0 (ci := 11) rfl 1 (C := RX11) (T := TX11) (N := 37) rfl (by decide) mw_fl_11_83 (v := .int 0) rfl dX11_four_22 ?_
  refine lv_iconst (v := 1) E.1 E.2.1 dX11_four_25 (by decide) ?_
  refine lv_iadd E.1 E.2.1 dX11_four_26 ?_
  refine m_ci 1 (by decide) ?_
  refine m_put E G 0 (ci := 11) rfl 1 (C := RX11) (T := TX11) (N := 37) rfl (by decide) mw_fl_11_83 rfl rfl rfl (Nat.le_of_ble_eq_true rfl) dX11_four_27 (fun H locs G => ?_)
  have G : mG D A s H locs [(h0, .inr (11, [.ref m_tape, .int 1, .int 0, .ref m_sign, .ref m_length, .ref m_clause, .ref m_clauses, .ref m_read, .int 0, .int 0, .int 0, .int 0, .int 0, .int 0, .int 0, .ref m_open, .int 0, .ref m_stack, .int 0, .ref m_word, .ref m_said, .int (-1), .int 0, .ref m_goesTo, .ref m_hadBy, .ref m_wasSaid, .int 0, .ref m_kept, .ref m_hasBy, .ref m_standsThen, .ref m_isFit, .ref m_cornerThen, .long 0, .ref m_images, .ref m_imageForce, .ref m_imageX, .ref m_isMade])), (m_tape, .inl (K 1, 400, .inl f_1))] := G
  refine lv_iinc (v := 16) (lv' := [(2, .int 16), (0, .ref h0), (1, .int p1)]) E.1 E.2.1 dX11_four_30 hl (k := 0) rfl (by decide) (by decide) rfl (fun ls hl => ?_)
  refine lv_goto (tgt := 3) E.1 E.2.1 dX11_four_33 (by decide) ?_
  refine lv_iload_n E.1 E.2.1 dX11_four_3 rfl (lv_at hl 0 rfl) ?_
  refine lv_if_lt (tgt := 36) E.1 E.2.1 dX11_four_4 (by decide) (fun h => absurd h (by decide)) (fun _ => ?_)
  refine lv_aload_n E.1 E.2.1 dX11_four_7 rfl (lv_at hl 1 rfl) ?_
  refine m_get E G 0 (ci := 11) rfl 0 (C := RX11) (T := TX11) (N := 37) rfl (by decide) mw_fl_11_7 (v := .ref m_tape) rfl dX11_four_8 ?_
  refine lv_aload_n E.1 E.2.1 dX11_four_11 rfl (lv_at hl 1 rfl) ?_
  refine m_get E G 0 (ci := 11) rfl 1 (C := RX11) (T := TX11) (N := 37) rfl (by decide) mw_fl_11_83 (v := .int 1) rfl dX11_four_12 ?_
  refine lv_iload_n E.1 E.2.1 dX11_four_15 rfl (lv_at hl 2 rfl) ?_
  refine lv_iload_n E.1 E.2.1 dX11_four_16 rfl (lv_at hl 0 rfl) ?_
  refine lv_ishr E.1 E.2.1 dX11_four_17 ?_
  refine lv_i2b E.1 E.2.1 dX11_four_18 rfl ?_
  refine m_bast E G 1 rfl (by unfold vp_in; decide) dX11_four_19 (fun H locs G => ?_)
  obtain ⟨f_2, ef_2⟩ : ∃ f_2 : Nat → Int32, f_2 = (upd f_1 (1 : Int32).toNatClampNeg (vp_nar .byte ((p1 >>> ((16 : Int32) &&& 31)).toInt8.toInt32))) := ⟨_, rfl⟩
  have G : mG D A s H locs [(h0, .inr (11, [.ref m_tape, .int 1, .int 0, .ref m_sign, .ref m_length, .ref m_clause, .ref m_clauses, .ref m_read, .int 0, .int 0, .int 0, .int 0, .int 0, .int 0, .int 0, .ref m_open, .int 0, .ref m_stack, .int 0, .ref m_word, .ref m_said, .int (-1), .int 0, .ref m_goesTo, .ref m_hadBy, .ref m_wasSaid, .int 0, .ref m_kept, .ref m_hasBy, .ref m_standsThen, .ref m_isFit, .ref m_cornerThen, .long 0, .ref m_images, .ref m_imageForce, .ref m_imageX, .ref m_isMade])), (m_tape, .inl (K 1, 400, .inl f_2))] := by subst ef_2; exact G
  clear ef_2
  refine lv_aload_n E.1 E.2.1 dX11_four_20 rfl (lv_at hl 1 rfl) ?_
  refine lv_dup E.1 E.2.1 dX11_four_21 rfl ?_
  refine m_get E G 0 (ci := 11) rfl 1 (C := RX11) (T := TX11) (N := 37) rfl (by decide) mw_fl_11_83 (v := .int 1) rfl dX11_four_22 ?_
  refine lv_iconst (v := 1) E.1 E.2.1 dX11_four_25 (by decide) ?_
  refine lv_iadd E.1 E.2.1 dX11_four_26 ?_
  refine m_ci 2 (by decide) ?_
  refine m_put E G 0 (ci := 11) rfl 1 (C := RX11) (T := TX11) (N := 37) rfl (by decide) mw_fl_11_83 rfl rfl rfl (Nat.le_of_ble_eq_true rfl) dX11_four_27 (fun H locs G => ?_)
  have G : mG D A s H locs [(h0, .inr (11, [.ref m_tape, .int 2, .int 0, .ref m_sign, .ref m_length, .ref m_clause, .ref m_clauses, .ref m_read, .int 0, .int 0, .int 0, .int 0, .int 0, .int 0, .int 0, .ref m_open, .int 0, .ref m_stack, .int 0, .ref m_word, .ref m_said, .int (-1), .int 0, .ref m_goesTo, .ref m_hadBy, .ref m_wasSaid, .int 0, .ref m_kept, .ref m_hasBy, .ref m_standsThen, .ref m_isFit, .ref m_cornerThen, .long 0, .ref m_images, .ref m_imageForce, .ref m_imageX, .ref m_isMade])), (m_tape, .inl (K 1, 400, .inl f_2))] := G
  refine lv_iinc (v := 8) (lv' := [(2, .int 8), (0, .ref h0), (1, .int p1)]) E.1 E.2.1 dX11_four_30 hl (k := 0) rfl (by decide) (by decide) rfl (fun ls hl => ?_)
  refine lv_goto (tgt := 3) E.1 E.2.1 dX11_four_33 (by decide) ?_
  refine lv_iload_n E.1 E.2.1 dX11_four_3 rfl (lv_at hl 0 rfl) ?_
  refine lv_if_lt (tgt := 36) E.1 E.2.1 dX11_four_4 (by decide) (fun h => absurd h (by decide)) (fun _ => ?_)
  refine lv_aload_n E.1 E.2.1 dX11_four_7 rfl (lv_at hl 1 rfl) ?_
  refine m_get E G 0 (ci := 11) rfl 0 (C := RX11) (T := TX11) (N := 37) rfl (by decide) mw_fl_11_7 (v := .ref m_tape) rfl dX11_four_8 ?_
  refine lv_aload_n E.1 E.2.1 dX11_four_11 rfl (lv_at hl 1 rfl) ?_
  refine m_get E G 0 (ci := 11) rfl 1 (C := RX11) (T := TX11) (N := 37) rfl (by decide) mw_fl_11_83 (v := .int 2) rfl dX11_four_12 ?_
  refine lv_iload_n E.1 E.2.1 dX11_four_15 rfl (lv_at hl 2 rfl) ?_
  refine lv_iload_n E.1 E.2.1 dX11_four_16 rfl (lv_at hl 0 rfl) ?_
  refine lv_ishr E.1 E.2.1 dX11_four_17 ?_
  refine lv_i2b E.1 E.2.1 dX11_four_18 rfl ?_
  refine m_bast E G 1 rfl (by unfold vp_in; decide) dX11_four_19 (fun H locs G => ?_)
  obtain ⟨f_3, ef_3⟩ : ∃ f_3 : Nat → Int32, f_3 = (upd f_2 (2 : Int32).toNatClampNeg (vp_nar .byte ((p1 >>> ((8 : Int32) &&& 31)).toInt8.toInt32))) := ⟨_, rfl⟩
  have G : mG D A s H locs [(h0, .inr (11, [.ref m_tape, .int 2, .int 0, .ref m_sign, .ref m_length, .ref m_clause, .ref m_clauses, .ref m_read, .int 0, .int 0, .int 0, .int 0, .int 0, .int 0, .int 0, .ref m_open, .int 0, .ref m_stack, .int 0, .ref m_word, .ref m_said, .int (-1), .int 0, .ref m_goesTo, .ref m_hadBy, .ref m_wasSaid, .int 0, .ref m_kept, .ref m_hasBy, .ref m_standsThen, .ref m_isFit, .ref m_cornerThen, .long 0, .ref m_images, .ref m_imageForce, .ref m_imageX, .ref m_isMade])), (m_tape, .inl (K 1, 400, .inl f_3))] := by subst ef_3; exact G
  clear ef_3
  refine lv_aload_n E.1 E.2.1 dX11_four_20 rfl (lv_at hl 1 rfl) ?_
  refine lv_dup E.1 E.2.1 dX11_four_21 rfl ?_
  refine m_get E G 0 (ci := 11) rfl 1 (C := RX11) (T := TX11) (N := 37) rfl (by decide) mw_fl_11_83 (v := .int 2) rfl dX11_four_22 ?_
  refine lv_iconst (v := 1) E.1 E.2.1 dX11_four_25 (by decide) ?_
  refine lv_iadd E.1 E.2.1 dX11_four_26 ?_
  refine m_ci 3 (by decide) ?_
  refine m_put E G 0 (ci := 11) rfl 1 (C := RX11) (T := TX11) (N := 37) rfl (by decide) mw_fl_11_83 rfl rfl rfl (Nat.le_of_ble_eq_true rfl) dX11_four_27 (fun H locs G => ?_)
  have G : mG D A s H locs [(h0, .inr (11, [.ref m_tape, .int 3, .int 0, .ref m_sign, .ref m_length, .ref m_clause, .ref m_clauses, .ref m_read, .int 0, .int 0, .int 0, .int 0, .int 0, .int 0, .int 0, .ref m_open, .int 0, .ref m_stack, .int 0, .ref m_word, .ref m_said, .int (-1), .int 0, .ref m_goesTo, .ref m_hadBy, .ref m_wasSaid, .int 0, .ref m_kept, .ref m_hasBy, .ref m_standsThen, .ref m_isFit, .ref m_cornerThen, .long 0, .ref m_images, .ref m_imageForce, .ref m_imageX, .ref m_isMade])), (m_tape, .inl (K 1, 400, .inl f_3))] := G
  refine lv_iinc (v := 0) (lv' := [(2, .int 0), (0, .ref h0), (1, .int p1)]) E.1 E.2.1 dX11_four_30 hl (k := 0) rfl (by decide) (by decide) rfl (fun ls hl => ?_)
  refine lv_goto (tgt := 3) E.1 E.2.1 dX11_four_33 (by decide) ?_
  refine lv_iload_n E.1 E.2.1 dX11_four_3 rfl (lv_at hl 0 rfl) ?_
  refine lv_if_lt (tgt := 36) E.1 E.2.1 dX11_four_4 (by decide) (fun h => absurd h (by decide)) (fun _ => ?_)
  refine lv_aload_n E.1 E.2.1 dX11_four_7 rfl (lv_at hl 1 rfl) ?_
  refine m_get E G 0 (ci := 11) rfl 0 (C := RX11) (T := TX11) (N := 37) rfl (by decide) mw_fl_11_7 (v := .ref m_tape) rfl dX11_four_8 ?_
  refine lv_aload_n E.1 E.2.1 dX11_four_11 rfl (lv_at hl 1 rfl) ?_
  refine m_get E G 0 (ci := 11) rfl 1 (C := RX11) (T := TX11) (N := 37) rfl (by decide) mw_fl_11_83 (v := .int 3) rfl dX11_four_12 ?_
  refine lv_iload_n E.1 E.2.1 dX11_four_15 rfl (lv_at hl 2 rfl) ?_
  refine lv_iload_n E.1 E.2.1 dX11_four_16 rfl (lv_at hl 0 rfl) ?_
  refine lv_ishr E.1 E.2.1 dX11_four_17 ?_
  refine lv_i2b E.1 E.2.1 dX11_four_18 rfl ?_
  refine m_bast E G 1 rfl (by unfold vp_in; decide) dX11_four_19 (fun H locs G => ?_)
  obtain ⟨f_4, ef_4⟩ : ∃ f_4 : Nat → Int32, f_4 = (upd f_3 (3 : Int32).toNatClampNeg (vp_nar .byte ((p1 >>> ((0 : Int32) &&& 31)).toInt8.toInt32))) := ⟨_, rfl⟩
  have G : mG D A s H locs [(h0, .inr (11, [.ref m_tape, .int 3, .int 0, .ref m_sign, .ref m_length, .ref m_clause, .ref m_clauses, .ref m_read, .int 0, .int 0, .int 0, .int 0, .int 0, .int 0, .int 0, .ref m_open, .int 0, .ref m_stack, .int 0, .ref m_word, .ref m_said, .int (-1), .int 0, .ref m_goesTo, .ref m_hadBy, .ref m_wasSaid, .int 0, .ref m_kept, .ref m_hasBy, .ref m_standsThen, .ref m_isFit, .ref m_cornerThen, .long 0, .ref m_images, .ref m_imageForce, .ref m_imageX, .ref m_isMade])), (m_tape, .inl (K 1, 400, .inl f_4))] := by subst ef_4; exact G
  clear ef_4
  refine lv_aload_n E.1 E.2.1 dX11_four_20 rfl (lv_at hl 1 rfl) ?_
  refine lv_dup E.1 E.2.1 dX11_four_21 rfl ?_
  refine m_get E G 0 (ci := 11) rfl 1 (C := RX11) (T := TX11) (N := 37) rfl (by decide) mw_fl_11_83 (v := .int 3) rfl dX11_four_22 ?_
  refine lv_iconst (v := 1) E.1 E.2.1 dX11_four_25 (by decide) ?_
  refine lv_iadd E.1 E.2.1 dX11_four_26 ?_
  refine m_ci 4 (by decide) ?_
  refine m_put E G 0 (ci := 11) rfl 1 (C := RX11) (T := TX11) (N := 37) rfl (by decide) mw_fl_11_83 rfl rfl rfl (Nat.le_of_ble_eq_true rfl) dX11_four_27 (fun H locs G => ?_)
  have G : mG D A s H locs [(h0, .inr (11, [.ref m_tape, .int 4, .int 0, .ref m_sign, .ref m_length, .ref m_clause, .ref m_clauses, .ref m_read, .int 0, .int 0, .int 0, .int 0, .int 0, .int 0, .int 0, .ref m_open, .int 0, .ref m_stack, .int 0, .ref m_word, .ref m_said, .int (-1), .int 0, .ref m_goesTo, .ref m_hadBy, .ref m_wasSaid, .int 0, .ref m_kept, .ref m_hasBy, .ref m_standsThen, .ref m_isFit, .ref m_cornerThen, .long 0, .ref m_images, .ref m_imageForce, .ref m_imageX, .ref m_isMade])), (m_tape, .inl (K 1, 400, .inl f_4))] := G
  refine lv_iinc (v := (-8)) (lv' := [(2, .int (-8)), (0, .ref h0), (1, .int p1)]) E.1 E.2.1 dX11_four_30 hl (k := 0) rfl (by decide) (by decide) rfl (fun ls hl => ?_)
  refine lv_goto (tgt := 3) E.1 E.2.1 dX11_four_33 (by decide) ?_
  refine lv_iload_n E.1 E.2.1 dX11_four_3 rfl (lv_at hl 0 rfl) ?_
  refine lv_if_lt (tgt := 36) E.1 E.2.1 dX11_four_4 (by decide) (fun _ => ?_) (fun h => absurd (by decide) h)
  exact m_retv E G hr (fun _ => 0, fun k => ([f_4] : List (Nat → Int32)).getD k (fun _ => 0), fun _ _ => none) trivial [0, 1] (by decide) rfl (by decide) (by decide) dX11_four_36
set_option maxHeartbeats 4000000 in
set_option maxRecDepth 100000 in
theorem r_four_4 (l : Launch) (D : va_G) (K : Nat → ClassId) (h0 : Nat) (m_tape : Nat) (m_sign : Nat) (m_length : Nat) (m_clause : Nat) (m_clauses : Nat) (m_read : Nat) (m_open : Nat) (m_stack : Nat) (m_word : Nat) (m_said : Nat) (m_goesTo : Nat) (m_hadBy : Nat) (m_wasSaid : Nat) (m_kept : Nat) (m_hasBy : Nat) (m_standsThen : Nat) (m_isFit : Nat) (m_cornerThen : Nat) (m_images : Nat) (m_imageForce : Nat) (m_imageX : Nat) (m_isMade : Nat) (f0 : Nat → Int32) (p1 : Int32) : mV (S := mU) l yX11_four cX11_four 3 ({ frames := 0, cells := 0, slots := 0, locals := 0 }) D K [(h0, .inr (11, [.ref m_tape, .int 4, .int 0, .ref m_sign, .ref m_length, .ref m_clause, .ref m_clauses, .ref m_read, .int 0, .int 0, .int 0, .int 0, .int 0, .int 0, .int 0, .ref m_open, .int 0, .ref m_stack, .int 0, .ref m_word, .ref m_said, .int (-1), .int 0, .ref m_goesTo, .ref m_hadBy, .ref m_wasSaid, .int 0, .ref m_kept, .ref m_hasBy, .ref m_standsThen, .ref m_isFit, .ref m_cornerThen, .long 0, .ref m_images, .ref m_imageForce, .ref m_imageX, .ref m_isMade])), (m_tape, .inl (K 1, 400, .inl f0))] [.ref h0, .int p1] (fun u => True) (fun u => [(h0, .inr (11, [.ref m_tape, .int 8, .int 0, .ref m_sign, .ref m_length, .ref m_clause, .ref m_clauses, .ref m_read, .int 0, .int 0, .int 0, .int 0, .int 0, .int 0, .int 0, .ref m_open, .int 0, .ref m_stack, .int 0, .ref m_word, .ref m_said, .int (-1), .int 0, .ref m_goesTo, .ref m_hadBy, .ref m_wasSaid, .int 0, .ref m_kept, .ref m_hasBy, .ref m_standsThen, .ref m_isFit, .ref m_cornerThen, .long 0, .ref m_images, .ref m_imageForce, .ref m_imageX, .ref m_isMade])), (m_tape, .inl (K 1, 400, .inl (u.2.1 0)))]) := by
  refine m_enterV (by decide) (Nat.le_of_ble_eq_true rfl) ?_
  intro p e s m args below meth c A ls E hr hN G hl
  have E : mE p s m meth c cX11_four args 3 RX11 D K A := E
  have hl : lv_has ls 3 [(0, .ref h0), (1, .int p1)] := hl
  obtain ⟨H, hH⟩ : ∃ H, H = s.heap := ⟨_, rfl⟩
  obtain ⟨locs, hlo⟩ : ∃ L : List Loc, L = [] := ⟨_, rfl⟩
  rw [← hH, ← hlo] at G
  rw [← hH, ← hlo]
  have G : mG D A s H locs [(h0, .inr (11, [.ref m_tape, .int 4, .int 0, .ref m_sign, .ref m_length, .ref m_clause, .ref m_clauses, .ref m_read, .int 0, .int 0, .int 0, .int 0, .int 0, .int 0, .int 0, .ref m_open, .int 0, .ref m_stack, .int 0, .ref m_word, .ref m_said, .int (-1), .int 0, .ref m_goesTo, .ref m_hadBy, .ref m_wasSaid, .int 0, .ref m_kept, .ref m_hasBy, .ref m_standsThen, .ref m_isFit, .ref m_cornerThen, .long 0, .ref m_images, .ref m_imageForce, .ref m_imageX, .ref m_isMade])), (m_tape, .inl (K 1, 400, .inl f0))] := G
  clear hH hlo
  refine lv_bipush (v := 24) E.1 E.2.1 dX11_four_0 (by decide) ?_
  refine lv_istore_n (lv' := [(2, .int 24), (0, .ref h0), (1, .int p1)]) E.1 E.2.1 dX11_four_2 rfl hl (by decide) rfl (fun ls hl => ?_)
  refine lv_iload_n E.1 E.2.1 dX11_four_3 rfl (lv_at hl 0 rfl) ?_
  refine lv_if_lt (tgt := 36) E.1 E.2.1 dX11_four_4 (by decide) (fun h => absurd h (by decide)) (fun _ => ?_)
  refine lv_aload_n E.1 E.2.1 dX11_four_7 rfl (lv_at hl 1 rfl) ?_
  refine m_get E G 0 (ci := 11) rfl 0 (C := RX11) (T := TX11) (N := 37) rfl (by decide) mw_fl_11_7 (v := .ref m_tape) rfl dX11_four_8 ?_
  refine lv_aload_n E.1 E.2.1 dX11_four_11 rfl (lv_at hl 1 rfl) ?_
  refine m_get E G 0 (ci := 11) rfl 1 (C := RX11) (T := TX11) (N := 37) rfl (by decide) mw_fl_11_83 (v := .int 4) rfl dX11_four_12 ?_
  refine lv_iload_n E.1 E.2.1 dX11_four_15 rfl (lv_at hl 2 rfl) ?_
  refine lv_iload_n E.1 E.2.1 dX11_four_16 rfl (lv_at hl 0 rfl) ?_
  refine lv_ishr E.1 E.2.1 dX11_four_17 ?_
  refine lv_i2b E.1 E.2.1 dX11_four_18 rfl ?_
  refine m_bast E G 1 rfl (by unfold vp_in; decide) dX11_four_19 (fun H locs G => ?_)
  obtain ⟨f_1, ef_1⟩ : ∃ f_1 : Nat → Int32, f_1 = (upd f0 (4 : Int32).toNatClampNeg (vp_nar .byte ((p1 >>> ((24 : Int32) &&& 31)).toInt8.toInt32))) := ⟨_, rfl⟩
  have G : mG D A s H locs [(h0, .inr (11, [.ref m_tape, .int 4, .int 0, .ref m_sign, .ref m_length, .ref m_clause, .ref m_clauses, .ref m_read, .int 0, .int 0, .int 0, .int 0, .int 0, .int 0, .int 0, .ref m_open, .int 0, .ref m_stack, .int 0, .ref m_word, .ref m_said, .int (-1), .int 0, .ref m_goesTo, .ref m_hadBy, .ref m_wasSaid, .int 0, .ref m_kept, .ref m_hasBy, .ref m_standsThen, .ref m_isFit, .ref m_cornerThen, .long 0, .ref m_images, .ref m_imageForce, .ref m_imageX, .ref m_isMade])), (m_tape, .inl (K 1, 400, .inl f_1))] := by subst ef_1; exact G
  clear ef_1
  refine lv_aload_n E.1 E.2.1 dX11_four_20 rfl (lv_at hl 1 rfl) ?_
  refine lv_dup E.1 E.2.1 dX11_four_21 rfl ?_
  refine m_get E G 0 (ci := 11) rfl 1 (C := RX11) (T := TX11) (N := 37) rfl (by decide) mw_fl_11_83 (v := .int 4) rfl dX11_four_22 ?_
  refine lv_iconst (v := 1) E.1 E.2.1 dX11_four_25 (by decide) ?_
  refine lv_iadd E.1 E.2.1 dX11_four_26 ?_
  refine m_ci 5 (by decide) ?_
  refine m_put E G 0 (ci := 11) rfl 1 (C := RX11) (T := TX11) (N := 37) rfl (by decide) mw_fl_11_83 rfl rfl rfl (Nat.le_of_ble_eq_true rfl) dX11_four_27 (fun H locs G => ?_)
  have G : mG D A s H locs [(h0, .inr (11, [.ref m_tape, .int 5, .int 0, .ref m_sign, .ref m_length, .ref m_clause, .ref m_clauses, .ref m_read, .int 0, .int 0, .int 0, .int 0, .int 0, .int 0, .int 0, .ref m_open, .int 0, .ref m_stack, .int 0, .ref m_word, .ref m_said, .int (-1), .int 0, .ref m_goesTo, .ref m_hadBy, .ref m_wasSaid, .int 0, .ref m_kept, .ref m_hasBy, .ref m_standsThen, .ref m_isFit, .ref m_cornerThen, .long 0, .ref m_images, .ref m_imageForce, .ref m_imageX, .ref m_isMade])), (m_tape, .inl (K 1, 400, .inl f_1))] := G
  refine lv_iinc (v := 16) (lv' := [(2, .int 16), (0, .ref h0), (1, .int p1)]) E.1 E.2.1 dX11_four_30 hl (k := 0) rfl (by decide) (by decide) rfl (fun ls hl => ?_)
  refine lv_goto (tgt := 3) E.1 E.2.1 dX11_four_33 (by decide) ?_
  refine lv_iload_n E.1 E.2.1 dX11_four_3 rfl (lv_at hl 0 rfl) ?_
  refine lv_if_lt (tgt := 36) E.1 E.2.1 dX11_four_4 (by decide) (fun h => absurd h (by decide)) (fun _ => ?_)
  refine lv_aload_n E.1 E.2.1 dX11_four_7 rfl (lv_at hl 1 rfl) ?_
  refine m_get E G 0 (ci := 11) rfl 0 (C := RX11) (T := TX11) (N := 37) rfl (by decide) mw_fl_11_7 (v := .ref m_tape) rfl dX11_four_8 ?_
  refine lv_aload_n E.1 E.2.1 dX11_four_11 rfl (lv_at hl 1 rfl) ?_
  refine m_get E G 0 (ci := 11) rfl 1 (C := RX11) (T := TX11) (N := 37) rfl (by decide) mw_fl_11_83 (v := .int 5) rfl dX11_four_12 ?_
  refine lv_iload_n E.1 E.2.1 dX11_four_15 rfl (lv_at hl 2 rfl) ?_
  refine lv_iload_n E.1 E.2.1 dX11_four_16 rfl (lv_at hl 0 rfl) ?_
  refine lv_ishr E.1 E.2.1 dX11_four_17 ?_
  refine lv_i2b E.1 E.2.1 dX11_four_18 rfl ?_
  refine m_bast E G 1 rfl (by unfold vp_in; decide) dX11_four_19 (fun H locs G => ?_)
  obtain ⟨f_2, ef_2⟩ : ∃ f_2 : Nat → Int32, f_2 = (upd f_1 (5 : Int32).toNatClampNeg (vp_nar .byte ((p1 >>> ((16 : Int32) &&& 31)).toInt8.toInt32))) := ⟨_, rfl⟩
  have G : mG D A s H locs [(h0, .inr (11, [.ref m_tape, .int 5, .int 0, .ref m_sign, .ref m_length, .ref m_clause, .ref m_clauses, .ref m_read, .int 0, .int 0, .int 0, .int 0, .int 0, .int 0, .int 0, .ref m_open, .int 0, .ref m_stack, .int 0, .ref m_word, .ref m_said, .int (-1), .int 0, .ref m_goesTo, .ref m_hadBy, .ref m_wasSaid, .int 0, .ref m_kept, .ref m_hasBy, .ref m_standsThen, .ref m_isFit, .ref m_cornerThen, .long 0, .ref m_images, .ref m_imageForce, .ref m_imageX, .ref m_isMade])), (m_tape, .inl (K 1, 400, .inl f_2))] := by subst ef_2; exact G
  clear ef_2
  refine lv_aload_n E.1 E.2.1 dX11_four_20 rfl (lv_at hl 1 rfl) ?_
  refine lv_dup E.1 E.2.1 dX11_four_21 rfl ?_
  refine m_get E G 0 (ci := 11) rfl 1 (C := RX11) (T := TX11) (N := 37) rfl (by decide) mw_fl_11_83 (v := .int 5) rfl dX11_four_22 ?_
  refine lv_iconst (v := 1) E.1 E.2.1 dX11_four_25 (by decide) ?_
  refine lv_iadd E.1 E.2.1 dX11_four_26 ?_
  refine m_ci 6 (by decide) ?_
  refine m_put E G 0 (ci := 11) rfl 1 (C := RX11) (T := TX11) (N := 37) rfl (by decide) mw_fl_11_83 rfl rfl rfl (Nat.le_of_ble_eq_true rfl) dX11_four_27 (fun H locs G => ?_)
  have G : mG D A s H locs [(h0, .inr (11, [.ref m_tape, .int 6, .int 0, .ref m_sign, .ref m_length, .ref m_clause, .ref m_clauses, .ref m_read, .int 0, .int 0, .int 0, .int 0, .int 0, .int 0, .int 0, .ref m_open, .int 0, .ref m_stack, .int 0, .ref m_word, .ref m_said, .int (-1), .int 0, .ref m_goesTo, .ref m_hadBy, .ref m_wasSaid, .int 0, .ref m_kept, .ref m_hasBy, .ref m_standsThen, .ref m_isFit, .ref m_cornerThen, .long 0, .ref m_images, .ref m_imageForce, .ref m_imageX, .ref m_isMade])), (m_tape, .inl (K 1, 400, .inl f_2))] := G
  refine lv_iinc (v := 8) (lv' := [(2, .int 8), (0, .ref h0), (1, .int p1)]) E.1 E.2.1 dX11_four_30 hl (k := 0) rfl (by decide) (by decide) rfl (fun ls hl => ?_)
  refine lv_goto (tgt := 3) E.1 E.2.1 dX11_four_33 (by decide) ?_
  refine lv_iload_n E.1 E.2.1 dX11_four_3 rfl (lv_at hl 0 rfl) ?_
  refine lv_if_lt (tgt := 36) E.1 E.2.1 dX11_four_4 (by decide) (fun h => absurd h (by decide)) (fun _ => ?_)
  refine lv_aload_n E.1 E.2.1 dX11_four_7 rfl (lv_at hl 1 rfl) ?_
  refine m_get E G 0 (ci := 11) rfl 0 (C := RX11) (T := TX11) (N := 37) rfl (by decide) mw_fl_11_7 (v := .ref m_tape) rfl dX11_four_8 ?_
  refine lv_aload_n E.1 E.2.1 dX11_four_11 rfl (lv_at hl 1 rfl) ?_
  refine m_get E G 0 (ci := 11) rfl 1 (C := RX11) (T := TX11) (N := 37) rfl (by decide) mw_fl_11_83 (v := .int 6) rfl dX11_four_12 ?_
  refine lv_iload_n E.1 E.2.1 dX11_four_15 rfl (lv_at hl 2 rfl) ?_
  refine lv_iload_n E.1 E.2.1 dX11_four_16 rfl (lv_at hl 0 rfl) ?_
  refine lv_ishr E.1 E.2.1 dX11_four_17 ?_
  refine lv_i2b E.1 E.2.1 dX11_four_18 rfl ?_
  refine m_bast E G 1 rfl (by unfold vp_in; decide) dX11_four_19 (fun H locs G => ?_)
  obtain ⟨f_3, ef_3⟩ : ∃ f_3 : Nat → Int32, f_3 = (upd f_2 (6 : Int32).toNatClampNeg (vp_nar .byte ((p1 >>> ((8 : Int32) &&& 31)).toInt8.toInt32))) := ⟨_, rfl⟩
  have G : mG D A s H locs [(h0, .inr (11, [.ref m_tape, .int 6, .int 0, .ref m_sign, .ref m_length, .ref m_clause, .ref m_clauses, .ref m_read, .int 0, .int 0, .int 0, .int 0, .int 0, .int 0, .int 0, .ref m_open, .int 0, .ref m_stack, .int 0, .ref m_word, .ref m_said, .int (-1), .int 0, .ref m_goesTo, .ref m_hadBy, .ref m_wasSaid, .int 0, .ref m_kept, .ref m_hasBy, .ref m_standsThen, .ref m_isFit, .ref m_cornerThen, .long 0, .ref m_images, .ref m_imageForce, .ref m_imageX, .ref m_isMade])), (m_tape, .inl (K 1, 400, .inl f_3))] := by subst ef_3; exact G
  clear ef_3
  refine lv_aload_n E.1 E.2.1 dX11_four_20 rfl (lv_at hl 1 rfl) ?_
  refine lv_dup E.1 E.2.1 dX11_four_21 rfl ?_
  refine m_get E G 0 (ci := 11) rfl 1 (C := RX11) (T := TX11) (N := 37) rfl (by decide) mw_fl_11_83 (v := .int 6) rfl dX11_four_22 ?_
  refine lv_iconst (v := 1) E.1 E.2.1 dX11_four_25 (by decide) ?_
  refine lv_iadd E.1 E.2.1 dX11_four_26 ?_
  refine m_ci 7 (by decide) ?_
  refine m_put E G 0 (ci := 11) rfl 1 (C := RX11) (T := TX11) (N := 37) rfl (by decide) mw_fl_11_83 rfl rfl rfl (Nat.le_of_ble_eq_true rfl) dX11_four_27 (fun H locs G => ?_)
  have G : mG D A s H locs [(h0, .inr (11, [.ref m_tape, .int 7, .int 0, .ref m_sign, .ref m_length, .ref m_clause, .ref m_clauses, .ref m_read, .int 0, .int 0, .int 0, .int 0, .int 0, .int 0, .int 0, .ref m_open, .int 0, .ref m_stack, .int 0, .ref m_word, .ref m_said, .int (-1), .int 0, .ref m_goesTo, .ref m_hadBy, .ref m_wasSaid, .int 0, .ref m_kept, .ref m_hasBy, .ref m_standsThen, .ref m_isFit, .ref m_cornerThen, .long 0, .ref m_images, .ref m_imageForce, .ref m_imageX, .ref m_isMade])), (m_tape, .inl (K 1, 400, .inl f_3))] := G
  refine lv_iinc (v := 0) (lv' := [(2, .int 0), (0, .ref h0), (1, .int p1)]) E.1 E.2.1 dX11_four_30 hl (k := 0) rfl (by decide) (by decide) rfl (fun ls hl => ?_)
  refine lv_goto (tgt := 3) E.1 E.2.1 dX11_four_33 (by decide) ?_
  refine lv_iload_n E.1 E.2.1 dX11_four_3 rfl (lv_at hl 0 rfl) ?_
  refine lv_if_lt (tgt := 36) E.1 E.2.1 dX11_four_4 (by decide) (fun h => absurd h (by decide)) (fun _ => ?_)
  refine lv_aload_n E.1 E.2.1 dX11_four_7 rfl (lv_at hl 1 rfl) ?_
  refine m_get E G 0 (ci := 11) rfl 0 (C := RX11) (T := TX11) (N := 37) rfl (by decide) mw_fl_11_7 (v := .ref m_tape) rfl dX11_four_8 ?_
  refine lv_aload_n E.1 E.2.1 dX11_four_11 rfl (lv_at hl 1 rfl) ?_
  refine m_get E G 0 (ci := 11) rfl 1 (C := RX11) (T := TX11) (N := 37) rfl (by decide) mw_fl_11_83 (v := .int 7) rfl dX11_four_12 ?_
  refine lv_iload_n E.1 E.2.1 dX11_four_15 rfl (lv_at hl 2 rfl) ?_
  refine lv_iload_n E.1 E.2.1 dX11_four_16 rfl (lv_at hl 0 rfl) ?_
  refine lv_ishr E.1 E.2.1 dX11_four_17 ?_
  refine lv_i2b E.1 E.2.1 dX11_four_18 rfl ?_
  refine m_bast E G 1 rfl (by unfold vp_in; decide) dX11_four_19 (fun H locs G => ?_)
  obtain ⟨f_4, ef_4⟩ : ∃ f_4 : Nat → Int32, f_4 = (upd f_3 (7 : Int32).toNatClampNeg (vp_nar .byte ((p1 >>> ((0 : Int32) &&& 31)).toInt8.toInt32))) := ⟨_, rfl⟩
  have G : mG D A s H locs [(h0, .inr (11, [.ref m_tape, .int 7, .int 0, .ref m_sign, .ref m_length, .ref m_clause, .ref m_clauses, .ref m_read, .int 0, .int 0, .int 0, .int 0, .int 0, .int 0, .int 0, .ref m_open, .int 0, .ref m_stack, .int 0, .ref m_word, .ref m_said, .int (-1), .int 0, .ref m_goesTo, .ref m_hadBy, .ref m_wasSaid, .int 0, .ref m_kept, .ref m_hasBy, .ref m_standsThen, .ref m_isFit, .ref m_cornerThen, .long 0, .ref m_images, .ref m_imageForce, .ref m_imageX, .ref m_isMade])), (m_tape, .inl (K 1, 400, .inl f_4))] := by subst ef_4; exact G
  clear ef_4
  refine lv_aload_n E.1 E.2.1 dX11_four_20 rfl (lv_at hl 1 rfl) ?_
  refine lv_dup E.1 E.2.1 dX11_four_21 rfl ?_
  refine m_get E G 0 (ci := 11) rfl 1 (C := RX11) (T := TX11) (N := 37) rfl (by decide) mw_fl_11_83 (v := .int 7) rfl dX11_four_22 ?_
  refine lv_iconst (v := 1) E.1 E.2.1 dX11_four_25 (by decide) ?_
  refine lv_iadd E.1 E.2.1 dX11_four_26 ?_
  refine m_ci 8 (by decide) ?_
  refine m_put E G 0 (ci := 11) rfl 1 (C := RX11) (T := TX11) (N := 37) rfl (by decide) mw_fl_11_83 rfl rfl rfl (Nat.le_of_ble_eq_true rfl) dX11_four_27 (fun H locs G => ?_)
  have G : mG D A s H locs [(h0, .inr (11, [.ref m_tape, .int 8, .int 0, .ref m_sign, .ref m_length, .ref m_clause, .ref m_clauses, .ref m_read, .int 0, .int 0, .int 0, .int 0, .int 0, .int 0, .int 0, .ref m_open, .int 0, .ref m_stack, .int 0, .ref m_word, .ref m_said, .int (-1), .int 0, .ref m_goesTo, .ref m_hadBy, .ref m_wasSaid, .int 0, .ref m_kept, .ref m_hasBy, .ref m_standsThen, .ref m_isFit, .ref m_cornerThen, .long 0, .ref m_images, .ref m_imageForce, .ref m_imageX, .ref m_isMade])), (m_tape, .inl (K 1, 400, .inl f_4))] := G
  refine lv_iinc (v := (-8)) (lv' := [(2, .int (-8)), (0, .ref h0), (1, .int p1)]) E.1 E.2.1 dX11_four_30 hl (k := 0) rfl (by decide) (by decide) rfl (fun ls hl => ?_)
  refine lv_goto (tgt := 3) E.1 E.2.1 dX11_four_33 (by decide) ?_
  refine lv_iload_n E.1 E.2.1 dX11_four_3 rfl (lv_at hl 0 rfl) ?_
  refine lv_if_lt (tgt := 36) E.1 E.2.1 dX11_four_4 (by decide) (fun _ => ?_) (fun h => absurd (by decide) h)
  exact m_retv E G hr (fun _ => 0, fun k => ([f_4] : List (Nat → Int32)).getD k (fun _ => 0), fun _ _ => none) trivial [0, 1] (by decide) rfl (by decide) (by decide) dX11_four_36
set_option maxHeartbeats 4000000 in
set_option maxRecDepth 100000 in
theorem r_four_8 (l : Launch) (D : va_G) (K : Nat → ClassId) (h0 : Nat) (m_tape : Nat) (m_sign : Nat) (m_length : Nat) (m_clause : Nat) (m_clauses : Nat) (m_read : Nat) (m_open : Nat) (m_stack : Nat) (m_word : Nat) (m_said : Nat) (m_goesTo : Nat) (m_hadBy : Nat) (m_wasSaid : Nat) (m_kept : Nat) (m_hasBy : Nat) (m_standsThen : Nat) (m_isFit : Nat) (m_cornerThen : Nat) (m_images : Nat) (m_imageForce : Nat) (m_imageX : Nat) (m_isMade : Nat) (f0 : Nat → Int32) (p1 : Int32) : mV (S := mU) l yX11_four cX11_four 3 ({ frames := 0, cells := 0, slots := 0, locals := 0 }) D K [(h0, .inr (11, [.ref m_tape, .int 8, .int 0, .ref m_sign, .ref m_length, .ref m_clause, .ref m_clauses, .ref m_read, .int 0, .int 0, .int 0, .int 0, .int 0, .int 0, .int 0, .ref m_open, .int 0, .ref m_stack, .int 0, .ref m_word, .ref m_said, .int (-1), .int 0, .ref m_goesTo, .ref m_hadBy, .ref m_wasSaid, .int 0, .ref m_kept, .ref m_hasBy, .ref m_standsThen, .ref m_isFit, .ref m_cornerThen, .long 0, .ref m_images, .ref m_imageForce, .ref m_imageX, .ref m_isMade])), (m_tape, .inl (K 1, 400, .inl f0))] [.ref h0, .int p1] (fun u => True) (fun u => [(h0, .inr (11, [.ref m_tape, .int 12, .int 0, .ref m_sign, .ref m_length, .ref m_clause, .ref m_clauses, .ref m_read, .int 0, .int 0, .int 0, .int 0, .int 0, .int 0, .int 0, .ref m_open, .int 0, .ref m_stack, .int 0, .ref m_word, .ref m_said, .int (-1), .int 0, .ref m_goesTo, .ref m_hadBy, .ref m_wasSaid, .int 0, .ref m_kept, .ref m_hasBy, .ref m_standsThen, .ref m_isFit, .ref m_cornerThen, .long 0, .ref m_images, .ref m_imageForce, .ref m_imageX, .ref m_isMade])), (m_tape, .inl (K 1, 400, .inl (u.2.1 0)))]) := by
  refine m_enterV (by decide) (Nat.le_of_ble_eq_true rfl) ?_
  intro p e s m args below meth c A ls E hr hN G hl
  have E : mE p s m meth c cX11_four args 3 RX11 D K A := E
  have hl : lv_has ls 3 [(0, .ref h0), (1, .int p1)] := hl
  obtain ⟨H, hH⟩ : ∃ H, H = s.heap := ⟨_, rfl⟩
  obtain ⟨locs, hlo⟩ : ∃ L : List Loc, L = [] := ⟨_, rfl⟩
  rw [← hH, ← hlo] at G
  rw [← hH, ← hlo]
  have G : mG D A s H locs [(h0, .inr (11, [.ref m_tape, .int 8, .int 0, .ref m_sign, .ref m_length, .ref m_clause, .ref m_clauses, .ref m_read, .int 0, .int 0, .int 0, .int 0, .int 0, .int 0, .int 0, .ref m_open, .int 0, .ref m_stack, .int 0, .ref m_word, .ref m_said, .int (-1), .int 0, .ref m_goesTo, .ref m_hadBy, .ref m_wasSaid, .int 0, .ref m_kept, .ref m_hasBy, .ref m_standsThen, .ref m_isFit, .ref m_cornerThen, .long 0, .ref m_images, .ref m_imageForce, .ref m_imageX, .ref m_isMade])), (m_tape, .inl (K 1, 400, .inl f0))] := G
  clear hH hlo
  refine lv_bipush (v := 24) E.1 E.2.1 dX11_four_0 (by decide) ?_
  refine lv_istore_n (lv' := [(2, .int 24), (0, .ref h0), (1, .int p1)]) E.1 E.2.1 dX11_four_2 rfl hl (by decide) rfl (fun ls hl => ?_)
  refine lv_iload_n E.1 E.2.1 dX11_four_3 rfl (lv_at hl 0 rfl) ?_
  refine lv_if_lt (tgt := 36) E.1 E.2.1 dX11_four_4 (by decide) (fun h => absurd h (by decide)) (fun _ => ?_)
  refine lv_aload_n E.1 E.2.1 dX11_four_7 rfl (lv_at hl 1 rfl) ?_
  refine m_get E G 0 (ci := 11) rfl 0 (C := RX11) (T := TX11) (N := 37) rfl (by decide) mw_fl_11_7 (v := .ref m_tape) rfl dX11_four_8 ?_
  refine lv_aload_n E.1 E.2.1 dX11_four_11 rfl (lv_at hl 1 rfl) ?_
  refine m_get E G 0 (ci := 11) rfl 1 (C := RX11) (T := TX11) (N := 37) rfl (by decide) mw_fl_11_83 (v := .int 8) rfl dX11_four_12 ?_
  refine lv_iload_n E.1 E.2.1 dX11_four_15 rfl (lv_at hl 2 rfl) ?_
  refine lv_iload_n E.1 E.2.1 dX11_four_16 rfl (lv_at hl 0 rfl) ?_
  refine lv_ishr E.1 E.2.1 dX11_four_17 ?_
  refine lv_i2b E.1 E.2.1 dX11_four_18 rfl ?_
  refine m_bast E G 1 rfl (by unfold vp_in; decide) dX11_four_19 (fun H locs G => ?_)
  obtain ⟨f_1, ef_1⟩ : ∃ f_1 : Nat → Int32, f_1 = (upd f0 (8 : Int32).toNatClampNeg (vp_nar .byte ((p1 >>> ((24 : Int32) &&& 31)).toInt8.toInt32))) := ⟨_, rfl⟩
  have G : mG D A s H locs [(h0, .inr (11, [.ref m_tape, .int 8, .int 0, .ref m_sign, .ref m_length, .ref m_clause, .ref m_clauses, .ref m_read, .int 0, .int 0, .int 0, .int 0, .int 0, .int 0, .int 0, .ref m_open, .int 0, .ref m_stack, .int 0, .ref m_word, .ref m_said, .int (-1), .int 0, .ref m_goesTo, .ref m_hadBy, .ref m_wasSaid, .int 0, .ref m_kept, .ref m_hasBy, .ref m_standsThen, .ref m_isFit, .ref m_cornerThen, .long 0, .ref m_images, .ref m_imageForce, .ref m_imageX, .ref m_isMade])), (m_tape, .inl (K 1, 400, .inl f_1))] := by subst ef_1; exact G
  clear ef_1
  refine lv_aload_n E.1 E.2.1 dX11_four_20 rfl (lv_at hl 1 rfl) ?_
  refine lv_dup E.1 E.2.1 dX11_four_21 rfl ?_
  refine m_get E G 0 (ci := 11) rfl 1 (C := RX11) (T := TX11) (N := 37) rfl (by decide) mw_fl_11_83 (v := .int 8) rfl dX11_four_22 ?_
  refine lv_iconst (v := 1) E.1 E.2.1 dX11_four_25 (by decide) ?_
  refine lv_iadd E.1 E.2.1 dX11_four_26 ?_
  refine m_ci 9 (by decide) ?_
  refine m_put E G 0 (ci := 11) rfl 1 (C := RX11) (T := TX11) (N := 37) rfl (by decide) mw_fl_11_83 rfl rfl rfl (Nat.le_of_ble_eq_true rfl) dX11_four_27 (fun H locs G => ?_)
  have G : mG D A s H locs [(h0, .inr (11, [.ref m_tape, .int 9, .int 0, .ref m_sign, .ref m_length, .ref m_clause, .ref m_clauses, .ref m_read, .int 0, .int 0, .int 0, .int 0, .int 0, .int 0, .int 0, .ref m_open, .int 0, .ref m_stack, .int 0, .ref m_word, .ref m_said, .int (-1), .int 0, .ref m_goesTo, .ref m_hadBy, .ref m_wasSaid, .int 0, .ref m_kept, .ref m_hasBy, .ref m_standsThen, .ref m_isFit, .ref m_cornerThen, .long 0, .ref m_images, .ref m_imageForce, .ref m_imageX, .ref m_isMade])), (m_tape, .inl (K 1, 400, .inl f_1))] := G
  refine lv_iinc (v := 16) (lv' := [(2, .int 16), (0, .ref h0), (1, .int p1)]) E.1 E.2.1 dX11_four_30 hl (k := 0) rfl (by decide) (by decide) rfl (fun ls hl => ?_)
  refine lv_goto (tgt := 3) E.1 E.2.1 dX11_four_33 (by decide) ?_
  refine lv_iload_n E.1 E.2.1 dX11_four_3 rfl (lv_at hl 0 rfl) ?_
  refine lv_if_lt (tgt := 36) E.1 E.2.1 dX11_four_4 (by decide) (fun h => absurd h (by decide)) (fun _ => ?_)
  refine lv_aload_n E.1 E.2.1 dX11_four_7 rfl (lv_at hl 1 rfl) ?_
  refine m_get E G 0 (ci := 11) rfl 0 (C := RX11) (T := TX11) (N := 37) rfl (by decide) mw_fl_11_7 (v := .ref m_tape) rfl dX11_four_8 ?_
  refine lv_aload_n E.1 E.2.1 dX11_four_11 rfl (lv_at hl 1 rfl) ?_
  refine m_get E G 0 (ci := 11) rfl 1 (C := RX11) (T := TX11) (N := 37) rfl (by decide) mw_fl_11_83 (v := .int 9) rfl dX11_four_12 ?_
  refine lv_iload_n E.1 E.2.1 dX11_four_15 rfl (lv_at hl 2 rfl) ?_
  refine lv_iload_n E.1 E.2.1 dX11_four_16 rfl (lv_at hl 0 rfl) ?_
  refine lv_ishr E.1 E.2.1 dX11_four_17 ?_
  refine lv_i2b E.1 E.2.1 dX11_four_18 rfl ?_
  refine m_bast E G 1 rfl (by unfold vp_in; decide) dX11_four_19 (fun H locs G => ?_)
  obtain ⟨f_2, ef_2⟩ : ∃ f_2 : Nat → Int32, f_2 = (upd f_1 (9 : Int32).toNatClampNeg (vp_nar .byte ((p1 >>> ((16 : Int32) &&& 31)).toInt8.toInt32))) := ⟨_, rfl⟩
  have G : mG D A s H locs [(h0, .inr (11, [.ref m_tape, .int 9, .int 0, .ref m_sign, .ref m_length, .ref m_clause, .ref m_clauses, .ref m_read, .int 0, .int 0, .int 0, .int 0, .int 0, .int 0, .int 0, .ref m_open, .int 0, .ref m_stack, .int 0, .ref m_word, .ref m_said, .int (-1), .int 0, .ref m_goesTo, .ref m_hadBy, .ref m_wasSaid, .int 0, .ref m_kept, .ref m_hasBy, .ref m_standsThen, .ref m_isFit, .ref m_cornerThen, .long 0, .ref m_images, .ref m_imageForce, .ref m_imageX, .ref m_isMade])), (m_tape, .inl (K 1, 400, .inl f_2))] := by subst ef_2; exact G
  clear ef_2
  refine lv_aload_n E.1 E.2.1 dX11_four_20 rfl (lv_at hl 1 rfl) ?_
  refine lv_dup E.1 E.2.1 dX11_four_21 rfl ?_
  refine m_get E G 0 (ci := 11) rfl 1 (C := RX11) (T := TX11) (N := 37) rfl (by decide) mw_fl_11_83 (v := .int 9) rfl dX11_four_22 ?_
  refine lv_iconst (v := 1) E.1 E.2.1 dX11_four_25 (by decide) ?_
  refine lv_iadd E.1 E.2.1 dX11_four_26 ?_
  refine m_ci 10 (by decide) ?_
  refine m_put E G 0 (ci := 11) rfl 1 (C := RX11) (T := TX11) (N := 37) rfl (by decide) mw_fl_11_83 rfl rfl rfl (Nat.le_of_ble_eq_true rfl) dX11_four_27 (fun H locs G => ?_)
  have G : mG D A s H locs [(h0, .inr (11, [.ref m_tape, .int 10, .int 0, .ref m_sign, .ref m_length, .ref m_clause, .ref m_clauses, .ref m_read, .int 0, .int 0, .int 0, .int 0, .int 0, .int 0, .int 0, .ref m_open, .int 0, .ref m_stack, .int 0, .ref m_word, .ref m_said, .int (-1), .int 0, .ref m_goesTo, .ref m_hadBy, .ref m_wasSaid, .int 0, .ref m_kept, .ref m_hasBy, .ref m_standsThen, .ref m_isFit, .ref m_cornerThen, .long 0, .ref m_images, .ref m_imageForce, .ref m_imageX, .ref m_isMade])), (m_tape, .inl (K 1, 400, .inl f_2))] := G
  refine lv_iinc (v := 8) (lv' := [(2, .int 8), (0, .ref h0), (1, .int p1)]) E.1 E.2.1 dX11_four_30 hl (k := 0) rfl (by decide) (by decide) rfl (fun ls hl => ?_)
  refine lv_goto (tgt := 3) E.1 E.2.1 dX11_four_33 (by decide) ?_
  refine lv_iload_n E.1 E.2.1 dX11_four_3 rfl (lv_at hl 0 rfl) ?_
  refine lv_if_lt (tgt := 36) E.1 E.2.1 dX11_four_4 (by decide) (fun h => absurd h (by decide)) (fun _ => ?_)
  refine lv_aload_n E.1 E.2.1 dX11_four_7 rfl (lv_at hl 1 rfl) ?_
  refine m_get E G 0 (ci := 11) rfl 0 (C := RX11) (T := TX11) (N := 37) rfl (by decide) mw_fl_11_7 (v := .ref m_tape) rfl dX11_four_8 ?_
  refine lv_aload_n E.1 E.2.1 dX11_four_11 rfl (lv_at hl 1 rfl) ?_
  refine m_get E G 0 (ci := 11) rfl 1 (C := RX11) (T := TX11) (N := 37) rfl (by decide) mw_fl_11_83 (v := .int 10) rfl dX11_four_12 ?_
  refine lv_iload_n E.1 E.2.1 dX11_four_15 rfl (lv_at hl 2 rfl) ?_
  refine lv_iload_n E.1 E.2.1 dX11_four_16 rfl (lv_at hl 0 rfl) ?_
  refine lv_ishr E.1 E.2.1 dX11_four_17 ?_
  refine lv_i2b E.1 E.2.1 dX11_four_18 rfl ?_
  refine m_bast E G 1 rfl (by unfold vp_in; decide) dX11_four_19 (fun H locs G => ?_)
  obtain ⟨f_3, ef_3⟩ : ∃ f_3 : Nat → Int32, f_3 = (upd f_2 (10 : Int32).toNatClampNeg (vp_nar .byte ((p1 >>> ((8 : Int32) &&& 31)).toInt8.toInt32))) := ⟨_, rfl⟩
  have G : mG D A s H locs [(h0, .inr (11, [.ref m_tape, .int 10, .int 0, .ref m_sign, .ref m_length, .ref m_clause, .ref m_clauses, .ref m_read, .int 0, .int 0, .int 0, .int 0, .int 0, .int 0, .int 0, .ref m_open, .int 0, .ref m_stack, .int 0, .ref m_word, .ref m_said, .int (-1), .int 0, .ref m_goesTo, .ref m_hadBy, .ref m_wasSaid, .int 0, .ref m_kept, .ref m_hasBy, .ref m_standsThen, .ref m_isFit, .ref m_cornerThen, .long 0, .ref m_images, .ref m_imageForce, .ref m_imageX, .ref m_isMade])), (m_tape, .inl (K 1, 400, .inl f_3))] := by subst ef_3; exact G
  clear ef_3
  refine lv_aload_n E.1 E.2.1 dX11_four_20 rfl (lv_at hl 1 rfl) ?_
  refine lv_dup E.1 E.2.1 dX11_four_21 rfl ?_
  refine m_get E G 0 (ci := 11) rfl 1 (C := RX11) (T := TX11) (N := 37) rfl (by decide) mw_fl_11_83 (v := .int 10) rfl dX11_four_22 ?_
  refine lv_iconst (v := 1) E.1 E.2.1 dX11_four_25 (by decide) ?_
  refine lv_iadd E.1 E.2.1 dX11_four_26 ?_
  refine m_ci 11 (by decide) ?_
  refine m_put E G 0 (ci := 11) rfl 1 (C := RX11) (T := TX11) (N := 37) rfl (by decide) mw_fl_11_83 rfl rfl rfl (Nat.le_of_ble_eq_true rfl) dX11_four_27 (fun H locs G => ?_)
  have G : mG D A s H locs [(h0, .inr (11, [.ref m_tape, .int 11, .int 0, .ref m_sign, .ref m_length, .ref m_clause, .ref m_clauses, .ref m_read, .int 0, .int 0, .int 0, .int 0, .int 0, .int 0, .int 0, .ref m_open, .int 0, .ref m_stack, .int 0, .ref m_word, .ref m_said, .int (-1), .int 0, .ref m_goesTo, .ref m_hadBy, .ref m_wasSaid, .int 0, .ref m_kept, .ref m_hasBy, .ref m_standsThen, .ref m_isFit, .ref m_cornerThen, .long 0, .ref m_images, .ref m_imageForce, .ref m_imageX, .ref m_isMade])), (m_tape, .inl (K 1, 400, .inl f_3))] := G
  refine lv_iinc (v := 0) (lv' := [(2, .int 0), (0, .ref h0), (1, .int p1)]) E.1 E.2.1 dX11_four_30 hl (k := 0) rfl (by decide) (by decide) rfl (fun ls hl => ?_)
  refine lv_goto (tgt := 3) E.1 E.2.1 dX11_four_33 (by decide) ?_
  refine lv_iload_n E.1 E.2.1 dX11_four_3 rfl (lv_at hl 0 rfl) ?_
  refine lv_if_lt (tgt := 36) E.1 E.2.1 dX11_four_4 (by decide) (fun h => absurd h (by decide)) (fun _ => ?_)
  refine lv_aload_n E.1 E.2.1 dX11_four_7 rfl (lv_at hl 1 rfl) ?_
  refine m_get E G 0 (ci := 11) rfl 0 (C := RX11) (T := TX11) (N := 37) rfl (by decide) mw_fl_11_7 (v := .ref m_tape) rfl dX11_four_8 ?_
  refine lv_aload_n E.1 E.2.1 dX11_four_11 rfl (lv_at hl 1 rfl) ?_
  refine m_get E G 0 (ci := 11) rfl 1 (C := RX11) (T := TX11) (N := 37) rfl (by decide) mw_fl_11_83 (v := .int 11) rfl dX11_four_12 ?_
  refine lv_iload_n E.1 E.2.1 dX11_four_15 rfl (lv_at hl 2 rfl) ?_
  refine lv_iload_n E.1 E.2.1 dX11_four_16 rfl (lv_at hl 0 rfl) ?_
  refine lv_ishr E.1 E.2.1 dX11_four_17 ?_
  refine lv_i2b E.1 E.2.1 dX11_four_18 rfl ?_
  refine m_bast E G 1 rfl (by unfold vp_in; decide) dX11_four_19 (fun H locs G => ?_)
  obtain ⟨f_4, ef_4⟩ : ∃ f_4 : Nat → Int32, f_4 = (upd f_3 (11 : Int32).toNatClampNeg (vp_nar .byte ((p1 >>> ((0 : Int32) &&& 31)).toInt8.toInt32))) := ⟨_, rfl⟩
  have G : mG D A s H locs [(h0, .inr (11, [.ref m_tape, .int 11, .int 0, .ref m_sign, .ref m_length, .ref m_clause, .ref m_clauses, .ref m_read, .int 0, .int 0, .int 0, .int 0, .int 0, .int 0, .int 0, .ref m_open, .int 0, .ref m_stack, .int 0, .ref m_word, .ref m_said, .int (-1), .int 0, .ref m_goesTo, .ref m_hadBy, .ref m_wasSaid, .int 0, .ref m_kept, .ref m_hasBy, .ref m_standsThen, .ref m_isFit, .ref m_cornerThen, .long 0, .ref m_images, .ref m_imageForce, .ref m_imageX, .ref m_isMade])), (m_tape, .inl (K 1, 400, .inl f_4))] := by subst ef_4; exact G
  clear ef_4
  refine lv_aload_n E.1 E.2.1 dX11_four_20 rfl (lv_at hl 1 rfl) ?_
  refine lv_dup E.1 E.2.1 dX11_four_21 rfl ?_
  refine m_get E G 0 (ci := 11) rfl 1 (C := RX11) (T := TX11) (N := 37) rfl (by decide) mw_fl_11_83 (v := .int 11) rfl dX11_four_22 ?_
  refine lv_iconst (v := 1) E.1 E.2.1 dX11_four_25 (by decide) ?_
  refine lv_iadd E.1 E.2.1 dX11_four_26 ?_
  refine m_ci 12 (by decide) ?_
  refine m_put E G 0 (ci := 11) rfl 1 (C := RX11) (T := TX11) (N := 37) rfl (by decide) mw_fl_11_83 rfl rfl rfl (Nat.le_of_ble_eq_true rfl) dX11_four_27 (fun H locs G => ?_)
  have G : mG D A s H locs [(h0, .inr (11, [.ref m_tape, .int 12, .int 0, .ref m_sign, .ref m_length, .ref m_clause, .ref m_clauses, .ref m_read, .int 0, .int 0, .int 0, .int 0, .int 0, .int 0, .int 0, .ref m_open, .int 0, .ref m_stack, .int 0, .ref m_word, .ref m_said, .int (-1), .int 0, .ref m_goesTo, .ref m_hadBy, .ref m_wasSaid, .int 0, .ref m_kept, .ref m_hasBy, .ref m_standsThen, .ref m_isFit, .ref m_cornerThen, .long 0, .ref m_images, .ref m_imageForce, .ref m_imageX, .ref m_isMade])), (m_tape, .inl (K 1, 400, .inl f_4))] := G
  refine lv_iinc (v := (-8)) (lv' := [(2, .int (-8)), (0, .ref h0), (1, .int p1)]) E.1 E.2.1 dX11_four_30 hl (k := 0) rfl (by decide) (by decide) rfl (fun ls hl => ?_)
  refine lv_goto (tgt := 3) E.1 E.2.1 dX11_four_33 (by decide) ?_
  refine lv_iload_n E.1 E.2.1 dX11_four_3 rfl (lv_at hl 0 rfl) ?_
  refine lv_if_lt (tgt := 36) E.1 E.2.1 dX11_four_4 (by decide) (fun _ => ?_) (fun h => absurd (by decide) h)
  exact m_retv E G hr (fun _ => 0, fun k => ([f_4] : List (Nat → Int32)).getD k (fun _ => 0), fun _ _ => none) trivial [0, 1] (by decide) rfl (by decide) (by decide) dX11_four_36
set_option maxHeartbeats 4000000 in
set_option maxRecDepth 100000 in
theorem r_four_12 (l : Launch) (D : va_G) (K : Nat → ClassId) (h0 : Nat) (m_tape : Nat) (m_sign : Nat) (m_length : Nat) (m_clause : Nat) (m_clauses : Nat) (m_read : Nat) (m_open : Nat) (m_stack : Nat) (m_word : Nat) (m_said : Nat) (m_goesTo : Nat) (m_hadBy : Nat) (m_wasSaid : Nat) (m_kept : Nat) (m_hasBy : Nat) (m_standsThen : Nat) (m_isFit : Nat) (m_cornerThen : Nat) (m_images : Nat) (m_imageForce : Nat) (m_imageX : Nat) (m_isMade : Nat) (f0 : Nat → Int32) (p1 : Int32) : mV (S := mU) l yX11_four cX11_four 3 ({ frames := 0, cells := 0, slots := 0, locals := 0 }) D K [(h0, .inr (11, [.ref m_tape, .int 12, .int 0, .ref m_sign, .ref m_length, .ref m_clause, .ref m_clauses, .ref m_read, .int 0, .int 0, .int 0, .int 0, .int 0, .int 0, .int 0, .ref m_open, .int 0, .ref m_stack, .int 0, .ref m_word, .ref m_said, .int (-1), .int 0, .ref m_goesTo, .ref m_hadBy, .ref m_wasSaid, .int 0, .ref m_kept, .ref m_hasBy, .ref m_standsThen, .ref m_isFit, .ref m_cornerThen, .long 0, .ref m_images, .ref m_imageForce, .ref m_imageX, .ref m_isMade])), (m_tape, .inl (K 1, 400, .inl f0))] [.ref h0, .int p1] (fun u => True) (fun u => [(h0, .inr (11, [.ref m_tape, .int 16, .int 0, .ref m_sign, .ref m_length, .ref m_clause, .ref m_clauses, .ref m_read, .int 0, .int 0, .int 0, .int 0, .int 0, .int 0, .int 0, .ref m_open, .int 0, .ref m_stack, .int 0, .ref m_word, .ref m_said, .int (-1), .int 0, .ref m_goesTo, .ref m_hadBy, .ref m_wasSaid, .int 0, .ref m_kept, .ref m_hasBy, .ref m_standsThen, .ref m_isFit, .ref m_cornerThen, .long 0, .ref m_images, .ref m_imageForce, .ref m_imageX, .ref m_isMade])), (m_tape, .inl (K 1, 400, .inl (u.2.1 0)))]) := by
  refine m_enterV (by decide) (Nat.le_of_ble_eq_true rfl) ?_
  intro p e s m args below meth c A ls E hr hN G hl
  have E : mE p s m meth c cX11_four args 3 RX11 D K A := E
  have hl : lv_has ls 3 [(0, .ref h0), (1, .int p1)] := hl
  obtain ⟨H, hH⟩ : ∃ H, H = s.heap := ⟨_, rfl⟩
  obtain ⟨locs, hlo⟩ : ∃ L : List Loc, L = [] := ⟨_, rfl⟩
  rw [← hH, ← hlo] at G
  rw [← hH, ← hlo]
  have G : mG D A s H locs [(h0, .inr (11, [.ref m_tape, .int 12, .int 0, .ref m_sign, .ref m_length, .ref m_clause, .ref m_clauses, .ref m_read, .int 0, .int 0, .int 0, .int 0, .int 0, .int 0, .int 0, .ref m_open, .int 0, .ref m_stack, .int 0, .ref m_word, .ref m_said, .int (-1), .int 0, .ref m_goesTo, .ref m_hadBy, .ref m_wasSaid, .int 0, .ref m_kept, .ref m_hasBy, .ref m_standsThen, .ref m_isFit, .ref m_cornerThen, .long 0, .ref m_images, .ref m_imageForce, .ref m_imageX, .ref m_isMade])), (m_tape, .inl (K 1, 400, .inl f0))] := G
  clear hH hlo
  refine lv_bipush (v := 24) E.1 E.2.1 dX11_four_0 (by decide) ?_
  refine lv_istore_n (lv' := [(2, .int 24), (0, .ref h0), (1, .int p1)]) E.1 E.2.1 dX11_four_2 rfl hl (by decide) rfl (fun ls hl => ?_)
  refine lv_iload_n E.1 E.2.1 dX11_four_3 rfl (lv_at hl 0 rfl) ?_
  refine lv_if_lt (tgt := 36) E.1 E.2.1 dX11_four_4 (by decide) (fun h => absurd h (by decide)) (fun _ => ?_)
  refine lv_aload_n E.1 E.2.1 dX11_four_7 rfl (lv_at hl 1 rfl) ?_
  refine m_get E G 0 (ci := 11) rfl 0 (C := RX11) (T := TX11) (N := 37) rfl (by decide) mw_fl_11_7 (v := .ref m_tape) rfl dX11_four_8 ?_
  refine lv_aload_n E.1 E.2.1 dX11_four_11 rfl (lv_at hl 1 rfl) ?_
  refine m_get E G 0 (ci := 11) rfl 1 (C := RX11) (T := TX11) (N := 37) rfl (by decide) mw_fl_11_83 (v := .int 12) rfl dX11_four_12 ?_
  refine lv_iload_n E.1 E.2.1 dX11_four_15 rfl (lv_at hl 2 rfl) ?_
  refine lv_iload_n E.1 E.2.1 dX11_four_16 rfl (lv_at hl 0 rfl) ?_
  refine lv_ishr E.1 E.2.1 dX11_four_17 ?_
  refine lv_i2b E.1 E.2.1 dX11_four_18 rfl ?_
  refine m_bast E G 1 rfl (by unfold vp_in; decide) dX11_four_19 (fun H locs G => ?_)
  obtain ⟨f_1, ef_1⟩ : ∃ f_1 : Nat → Int32, f_1 = (upd f0 (12 : Int32).toNatClampNeg (vp_nar .byte ((p1 >>> ((24 : Int32) &&& 31)).toInt8.toInt32))) := ⟨_, rfl⟩
  have G : mG D A s H locs [(h0, .inr (11, [.ref m_tape, .int 12, .int 0, .ref m_sign, .ref m_length, .ref m_clause, .ref m_clauses, .ref m_read, .int 0, .int 0, .int 0, .int 0, .int 0, .int 0, .int 0, .ref m_open, .int 0, .ref m_stack, .int 0, .ref m_word, .ref m_said, .int (-1), .int 0, .ref m_goesTo, .ref m_hadBy, .ref m_wasSaid, .int 0, .ref m_kept, .ref m_hasBy, .ref m_standsThen, .ref m_isFit, .ref m_cornerThen, .long 0, .ref m_images, .ref m_imageForce, .ref m_imageX, .ref m_isMade])), (m_tape, .inl (K 1, 400, .inl f_1))] := by subst ef_1; exact G
  clear ef_1
  refine lv_aload_n E.1 E.2.1 dX11_four_20 rfl (lv_at hl 1 rfl) ?_
  refine lv_dup E.1 E.2.1 dX11_four_21 rfl ?_
  refine m_get E G 0 (ci := 11) rfl 1 (C := RX11) (T := TX11) (N := 37) rfl (by decide) mw_fl_11_83 (v := .int 12) rfl dX11_four_22 ?_
  refine lv_iconst (v := 1) E.1 E.2.1 dX11_four_25 (by decide) ?_
  refine lv_iadd E.1 E.2.1 dX11_four_26 ?_
  refine m_ci 13 (by decide) ?_
  refine m_put E G 0 (ci := 11) rfl 1 (C := RX11) (T := TX11) (N := 37) rfl (by decide) mw_fl_11_83 rfl rfl rfl (Nat.le_of_ble_eq_true rfl) dX11_four_27 (fun H locs G => ?_)
  have G : mG D A s H locs [(h0, .inr (11, [.ref m_tape, .int 13, .int 0, .ref m_sign, .ref m_length, .ref m_clause, .ref m_clauses, .ref m_read, .int 0, .int 0, .int 0, .int 0, .int 0, .int 0, .int 0, .ref m_open, .int 0, .ref m_stack, .int 0, .ref m_word, .ref m_said, .int (-1), .int 0, .ref m_goesTo, .ref m_hadBy, .ref m_wasSaid, .int 0, .ref m_kept, .ref m_hasBy, .ref m_standsThen, .ref m_isFit, .ref m_cornerThen, .long 0, .ref m_images, .ref m_imageForce, .ref m_imageX, .ref m_isMade])), (m_tape, .inl (K 1, 400, .inl f_1))] := G
  refine lv_iinc (v := 16) (lv' := [(2, .int 16), (0, .ref h0), (1, .int p1)]) E.1 E.2.1 dX11_four_30 hl (k := 0) rfl (by decide) (by decide) rfl (fun ls hl => ?_)
  refine lv_goto (tgt := 3) E.1 E.2.1 dX11_four_33 (by decide) ?_
  refine lv_iload_n E.1 E.2.1 dX11_four_3 rfl (lv_at hl 0 rfl) ?_
  refine lv_if_lt (tgt := 36) E.1 E.2.1 dX11_four_4 (by decide) (fun h => absurd h (by decide)) (fun _ => ?_)
  refine lv_aload_n E.1 E.2.1 dX11_four_7 rfl (lv_at hl 1 rfl) ?_
  refine m_get E G 0 (ci := 11) rfl 0 (C := RX11) (T := TX11) (N := 37) rfl (by decide) mw_fl_11_7 (v := .ref m_tape) rfl dX11_four_8 ?_
  refine lv_aload_n E.1 E.2.1 dX11_four_11 rfl (lv_at hl 1 rfl) ?_
  refine m_get E G 0 (ci := 11) rfl 1 (C := RX11) (T := TX11) (N := 37) rfl (by decide) mw_fl_11_83 (v := .int 13) rfl dX11_four_12 ?_
  refine lv_iload_n E.1 E.2.1 dX11_four_15 rfl (lv_at hl 2 rfl) ?_
  refine lv_iload_n E.1 E.2.1 dX11_four_16 rfl (lv_at hl 0 rfl) ?_
  refine lv_ishr E.1 E.2.1 dX11_four_17 ?_
  refine lv_i2b E.1 E.2.1 dX11_four_18 rfl ?_
  refine m_bast E G 1 rfl (by unfold vp_in; decide) dX11_four_19 (fun H locs G => ?_)
  obtain ⟨f_2, ef_2⟩ : ∃ f_2 : Nat → Int32, f_2 = (upd f_1 (13 : Int32).toNatClampNeg (vp_nar .byte ((p1 >>> ((16 : Int32) &&& 31)).toInt8.toInt32))) := ⟨_, rfl⟩
  have G : mG D A s H locs [(h0, .inr (11, [.ref m_tape, .int 13, .int 0, .ref m_sign, .ref m_length, .ref m_clause, .ref m_clauses, .ref m_read, .int 0, .int 0, .int 0, .int 0, .int 0, .int 0, .int 0, .ref m_open, .int 0, .ref m_stack, .int 0, .ref m_word, .ref m_said, .int (-1), .int 0, .ref m_goesTo, .ref m_hadBy, .ref m_wasSaid, .int 0, .ref m_kept, .ref m_hasBy, .ref m_standsThen, .ref m_isFit, .ref m_cornerThen, .long 0, .ref m_images, .ref m_imageForce, .ref m_imageX, .ref m_isMade])), (m_tape, .inl (K 1, 400, .inl f_2))] := by subst ef_2; exact G
  clear ef_2
  refine lv_aload_n E.1 E.2.1 dX11_four_20 rfl (lv_at hl 1 rfl) ?_
  refine lv_dup E.1 E.2.1 dX11_four_21 rfl ?_
  refine m_get E G 0 (ci := 11) rfl 1 (C := RX11) (T := TX11) (N := 37) rfl (by decide) mw_fl_11_83 (v := .int 13) rfl dX11_four_22 ?_
  refine lv_iconst (v := 1) E.1 E.2.1 dX11_four_25 (by decide) ?_
  refine lv_iadd E.1 E.2.1 dX11_four_26 ?_
  refine m_ci 14 (by decide) ?_
  refine m_put E G 0 (ci := 11) rfl 1 (C := RX11) (T := TX11) (N := 37) rfl (by decide) mw_fl_11_83 rfl rfl rfl (Nat.le_of_ble_eq_true rfl) dX11_four_27 (fun H locs G => ?_)
  have G : mG D A s H locs [(h0, .inr (11, [.ref m_tape, .int 14, .int 0, .ref m_sign, .ref m_length, .ref m_clause, .ref m_clauses, .ref m_read, .int 0, .int 0, .int 0, .int 0, .int 0, .int 0, .int 0, .ref m_open, .int 0, .ref m_stack, .int 0, .ref m_word, .ref m_said, .int (-1), .int 0, .ref m_goesTo, .ref m_hadBy, .ref m_wasSaid, .int 0, .ref m_kept, .ref m_hasBy, .ref m_standsThen, .ref m_isFit, .ref m_cornerThen, .long 0, .ref m_images, .ref m_imageForce, .ref m_imageX, .ref m_isMade])), (m_tape, .inl (K 1, 400, .inl f_2))] := G
  refine lv_iinc (v := 8) (lv' := [(2, .int 8), (0, .ref h0), (1, .int p1)]) E.1 E.2.1 dX11_four_30 hl (k := 0) rfl (by decide) (by decide) rfl (fun ls hl => ?_)
  refine lv_goto (tgt := 3) E.1 E.2.1 dX11_four_33 (by decide) ?_
  refine lv_iload_n E.1 E.2.1 dX11_four_3 rfl (lv_at hl 0 rfl) ?_
  refine lv_if_lt (tgt := 36) E.1 E.2.1 dX11_four_4 (by decide) (fun h => absurd h (by decide)) (fun _ => ?_)
  refine lv_aload_n E.1 E.2.1 dX11_four_7 rfl (lv_at hl 1 rfl) ?_
  refine m_get E G 0 (ci := 11) rfl 0 (C := RX11) (T := TX11) (N := 37) rfl (by decide) mw_fl_11_7 (v := .ref m_tape) rfl dX11_four_8 ?_
  refine lv_aload_n E.1 E.2.1 dX11_four_11 rfl (lv_at hl 1 rfl) ?_
  refine m_get E G 0 (ci := 11) rfl 1 (C := RX11) (T := TX11) (N := 37) rfl (by decide) mw_fl_11_83 (v := .int 14) rfl dX11_four_12 ?_
  refine lv_iload_n E.1 E.2.1 dX11_four_15 rfl (lv_at hl 2 rfl) ?_
  refine lv_iload_n E.1 E.2.1 dX11_four_16 rfl (lv_at hl 0 rfl) ?_
  refine lv_ishr E.1 E.2.1 dX11_four_17 ?_
  refine lv_i2b E.1 E.2.1 dX11_four_18 rfl ?_
  refine m_bast E G 1 rfl (by unfold vp_in; decide) dX11_four_19 (fun H locs G => ?_)
  obtain ⟨f_3, ef_3⟩ : ∃ f_3 : Nat → Int32, f_3 = (upd f_2 (14 : Int32).toNatClampNeg (vp_nar .byte ((p1 >>> ((8 : Int32) &&& 31)).toInt8.toInt32))) := ⟨_, rfl⟩
  have G : mG D A s H locs [(h0, .inr (11, [.ref m_tape, .int 14, .int 0, .ref m_sign, .ref m_length, .ref m_clause, .ref m_clauses, .ref m_read, .int 0, .int 0, .int 0, .int 0, .int 0, .int 0, .int 0, .ref m_open, .int 0, .ref m_stack, .int 0, .ref m_word, .ref m_said, .int (-1), .int 0, .ref m_goesTo, .ref m_hadBy, .ref m_wasSaid, .int 0, .ref m_kept, .ref m_hasBy, .ref m_standsThen, .ref m_isFit, .ref m_cornerThen, .long 0, .ref m_images, .ref m_imageForce, .ref m_imageX, .ref m_isMade])), (m_tape, .inl (K 1, 400, .inl f_3))] := by subst ef_3; exact G
  clear ef_3
  refine lv_aload_n E.1 E.2.1 dX11_four_20 rfl (lv_at hl 1 rfl) ?_
  refine lv_dup E.1 E.2.1 dX11_four_21 rfl ?_
  refine m_get E G 0 (ci := 11) rfl 1 (C := RX11) (T := TX11) (N := 37) rfl (by decide) mw_fl_11_83 (v := .int 14) rfl dX11_four_22 ?_
  refine lv_iconst (v := 1) E.1 E.2.1 dX11_four_25 (by decide) ?_
  refine lv_iadd E.1 E.2.1 dX11_four_26 ?_
  refine m_ci 15 (by decide) ?_
  refine m_put E G 0 (ci := 11) rfl 1 (C := RX11) (T := TX11) (N := 37) rfl (by decide) mw_fl_11_83 rfl rfl rfl (Nat.le_of_ble_eq_true rfl) dX11_four_27 (fun H locs G => ?_)
  have G : mG D A s H locs [(h0, .inr (11, [.ref m_tape, .int 15, .int 0, .ref m_sign, .ref m_length, .ref m_clause, .ref m_clauses, .ref m_read, .int 0, .int 0, .int 0, .int 0, .int 0, .int 0, .int 0, .ref m_open, .int 0, .ref m_stack, .int 0, .ref m_word, .ref m_said, .int (-1), .int 0, .ref m_goesTo, .ref m_hadBy, .ref m_wasSaid, .int 0, .ref m_kept, .ref m_hasBy, .ref m_standsThen, .ref m_isFit, .ref m_cornerThen, .long 0, .ref m_images, .ref m_imageForce, .ref m_imageX, .ref m_isMade])), (m_tape, .inl (K 1, 400, .inl f_3))] := G
  refine lv_iinc (v := 0) (lv' := [(2, .int 0), (0, .ref h0), (1, .int p1)]) E.1 E.2.1 dX11_four_30 hl (k := 0) rfl (by decide) (by decide) rfl (fun ls hl => ?_)
  refine lv_goto (tgt := 3) E.1 E.2.1 dX11_four_33 (by decide) ?_
  refine lv_iload_n E.1 E.2.1 dX11_four_3 rfl (lv_at hl 0 rfl) ?_
  refine lv_if_lt (tgt := 36) E.1 E.2.1 dX11_four_4 (by decide) (fun h => absurd h (by decide)) (fun _ => ?_)
  refine lv_aload_n E.1 E.2.1 dX11_four_7 rfl (lv_at hl 1 rfl) ?_
  refine m_get E G 0 (ci := 11) rfl 0 (C := RX11) (T := TX11) (N := 37) rfl (by decide) mw_fl_11_7 (v := .ref m_tape) rfl dX11_four_8 ?_
  refine lv_aload_n E.1 E.2.1 dX11_four_11 rfl (lv_at hl 1 rfl) ?_
  refine m_get E G 0 (ci := 11) rfl 1 (C := RX11) (T := TX11) (N := 37) rfl (by decide) mw_fl_11_83 (v := .int 15) rfl dX11_four_12 ?_
  refine lv_iload_n E.1 E.2.1 dX11_four_15 rfl (lv_at hl 2 rfl) ?_
  refine lv_iload_n E.1 E.2.1 dX11_four_16 rfl (lv_at hl 0 rfl) ?_
  refine lv_ishr E.1 E.2.1 dX11_four_17 ?_
  refine lv_i2b E.1 E.2.1 dX11_four_18 rfl ?_
  refine m_bast E G 1 rfl (by unfold vp_in; decide) dX11_four_19 (fun H locs G => ?_)
  obtain ⟨f_4, ef_4⟩ : ∃ f_4 : Nat → Int32, f_4 = (upd f_3 (15 : Int32).toNatClampNeg (vp_nar .byte ((p1 >>> ((0 : Int32) &&& 31)).toInt8.toInt32))) := ⟨_, rfl⟩
  have G : mG D A s H locs [(h0, .inr (11, [.ref m_tape, .int 15, .int 0, .ref m_sign, .ref m_length, .ref m_clause, .ref m_clauses, .ref m_read, .int 0, .int 0, .int 0, .int 0, .int 0, .int 0, .int 0, .ref m_open, .int 0, .ref m_stack, .int 0, .ref m_word, .ref m_said, .int (-1), .int 0, .ref m_goesTo, .ref m_hadBy, .ref m_wasSaid, .int 0, .ref m_kept, .ref m_hasBy, .ref m_standsThen, .ref m_isFit, .ref m_cornerThen, .long 0, .ref m_images, .ref m_imageForce, .ref m_imageX, .ref m_isMade])), (m_tape, .inl (K 1, 400, .inl f_4))] := by subst ef_4; exact G
  clear ef_4
  refine lv_aload_n E.1 E.2.1 dX11_four_20 rfl (lv_at hl 1 rfl) ?_
  refine lv_dup E.1 E.2.1 dX11_four_21 rfl ?_
  refine m_get E G 0 (ci := 11) rfl 1 (C := RX11) (T := TX11) (N := 37) rfl (by decide) mw_fl_11_83 (v := .int 15) rfl dX11_four_22 ?_
  refine lv_iconst (v := 1) E.1 E.2.1 dX11_four_25 (by decide) ?_
  refine lv_iadd E.1 E.2.1 dX11_four_26 ?_
  refine m_ci 16 (by decide) ?_
  refine m_put E G 0 (ci := 11) rfl 1 (C := RX11) (T := TX11) (N := 37) rfl (by decide) mw_fl_11_83 rfl rfl rfl (Nat.le_of_ble_eq_true rfl) dX11_four_27 (fun H locs G => ?_)
  have G : mG D A s H locs [(h0, .inr (11, [.ref m_tape, .int 16, .int 0, .ref m_sign, .ref m_length, .ref m_clause, .ref m_clauses, .ref m_read, .int 0, .int 0, .int 0, .int 0, .int 0, .int 0, .int 0, .ref m_open, .int 0, .ref m_stack, .int 0, .ref m_word, .ref m_said, .int (-1), .int 0, .ref m_goesTo, .ref m_hadBy, .ref m_wasSaid, .int 0, .ref m_kept, .ref m_hasBy, .ref m_standsThen, .ref m_isFit, .ref m_cornerThen, .long 0, .ref m_images, .ref m_imageForce, .ref m_imageX, .ref m_isMade])), (m_tape, .inl (K 1, 400, .inl f_4))] := G
  refine lv_iinc (v := (-8)) (lv' := [(2, .int (-8)), (0, .ref h0), (1, .int p1)]) E.1 E.2.1 dX11_four_30 hl (k := 0) rfl (by decide) (by decide) rfl (fun ls hl => ?_)
  refine lv_goto (tgt := 3) E.1 E.2.1 dX11_four_33 (by decide) ?_
  refine lv_iload_n E.1 E.2.1 dX11_four_3 rfl (lv_at hl 0 rfl) ?_
  refine lv_if_lt (tgt := 36) E.1 E.2.1 dX11_four_4 (by decide) (fun _ => ?_) (fun h => absurd (by decide) h)
  exact m_retv E G hr (fun _ => 0, fun k => ([f_4] : List (Nat → Int32)).getD k (fun _ => 0), fun _ _ => none) trivial [0, 1] (by decide) rfl (by decide) (by decide) dX11_four_36
set_option maxHeartbeats 4000000 in
set_option maxRecDepth 100000 in
theorem r_four_16 (l : Launch) (D : va_G) (K : Nat → ClassId) (h0 : Nat) (m_tape : Nat) (m_sign : Nat) (m_length : Nat) (m_clause : Nat) (m_clauses : Nat) (m_read : Nat) (m_open : Nat) (m_stack : Nat) (m_word : Nat) (m_said : Nat) (m_goesTo : Nat) (m_hadBy : Nat) (m_wasSaid : Nat) (m_kept : Nat) (m_hasBy : Nat) (m_standsThen : Nat) (m_isFit : Nat) (m_cornerThen : Nat) (m_images : Nat) (m_imageForce : Nat) (m_imageX : Nat) (m_isMade : Nat) (f0 : Nat → Int32) (p1 : Int32) : mV (S := mU) l yX11_four cX11_four 3 ({ frames := 0, cells := 0, slots := 0, locals := 0 }) D K [(h0, .inr (11, [.ref m_tape, .int 16, .int 0, .ref m_sign, .ref m_length, .ref m_clause, .ref m_clauses, .ref m_read, .int 0, .int 0, .int 0, .int 0, .int 0, .int 0, .int 0, .ref m_open, .int 0, .ref m_stack, .int 0, .ref m_word, .ref m_said, .int (-1), .int 0, .ref m_goesTo, .ref m_hadBy, .ref m_wasSaid, .int 0, .ref m_kept, .ref m_hasBy, .ref m_standsThen, .ref m_isFit, .ref m_cornerThen, .long 0, .ref m_images, .ref m_imageForce, .ref m_imageX, .ref m_isMade])), (m_tape, .inl (K 1, 400, .inl f0))] [.ref h0, .int p1] (fun u => True) (fun u => [(h0, .inr (11, [.ref m_tape, .int 20, .int 0, .ref m_sign, .ref m_length, .ref m_clause, .ref m_clauses, .ref m_read, .int 0, .int 0, .int 0, .int 0, .int 0, .int 0, .int 0, .ref m_open, .int 0, .ref m_stack, .int 0, .ref m_word, .ref m_said, .int (-1), .int 0, .ref m_goesTo, .ref m_hadBy, .ref m_wasSaid, .int 0, .ref m_kept, .ref m_hasBy, .ref m_standsThen, .ref m_isFit, .ref m_cornerThen, .long 0, .ref m_images, .ref m_imageForce, .ref m_imageX, .ref m_isMade])), (m_tape, .inl (K 1, 400, .inl (u.2.1 0)))]) := by
  refine m_enterV (by decide) (Nat.le_of_ble_eq_true rfl) ?_
  intro p e s m args below meth c A ls E hr hN G hl
  have E : mE p s m meth c cX11_four args 3 RX11 D K A := E
  have hl : lv_has ls 3 [(0, .ref h0), (1, .int p1)] := hl
  obtain ⟨H, hH⟩ : ∃ H, H = s.heap := ⟨_, rfl⟩
  obtain ⟨locs, hlo⟩ : ∃ L : List Loc, L = [] := ⟨_, rfl⟩
  rw [← hH, ← hlo] at G
  rw [← hH, ← hlo]
  have G : mG D A s H locs [(h0, .inr (11, [.ref m_tape, .int 16, .int 0, .ref m_sign, .ref m_length, .ref m_clause, .ref m_clauses, .ref m_read, .int 0, .int 0, .int 0, .int 0, .int 0, .int 0, .int 0, .ref m_open, .int 0, .ref m_stack, .int 0, .ref m_word, .ref m_said, .int (-1), .int 0, .ref m_goesTo, .ref m_hadBy, .ref m_wasSaid, .int 0, .ref m_kept, .ref m_hasBy, .ref m_standsThen, .ref m_isFit, .ref m_cornerThen, .long 0, .ref m_images, .ref m_imageForce, .ref m_imageX, .ref m_isMade])), (m_tape, .inl (K 1, 400, .inl f0))] := G
  clear hH hlo
  refine lv_bipush (v := 24) E.1 E.2.1 dX11_four_0 (by decide) ?_
  refine lv_istore_n (lv' := [(2, .int 24), (0, .ref h0), (1, .int p1)]) E.1 E.2.1 dX11_four_2 rfl hl (by decide) rfl (fun ls hl => ?_)
  refine lv_iload_n E.1 E.2.1 dX11_four_3 rfl (lv_at hl 0 rfl) ?_
  refine lv_if_lt (tgt := 36) E.1 E.2.1 dX11_four_4 (by decide) (fun h => absurd h (by decide)) (fun _ => ?_)
  refine lv_aload_n E.1 E.2.1 dX11_four_7 rfl (lv_at hl 1 rfl) ?_
  refine m_get E G 0 (ci := 11) rfl 0 (C := RX11) (T := TX11) (N := 37) rfl (by decide) mw_fl_11_7 (v := .ref m_tape) rfl dX11_four_8 ?_
  refine lv_aload_n E.1 E.2.1 dX11_four_11 rfl (lv_at hl 1 rfl) ?_
  refine m_get E G 0 (ci := 11) rfl 1 (C := RX11) (T := TX11) (N := 37) rfl (by decide) mw_fl_11_83 (v := .int 16) rfl dX11_four_12 ?_
  refine lv_iload_n E.1 E.2.1 dX11_four_15 rfl (lv_at hl 2 rfl) ?_
  refine lv_iload_n E.1 E.2.1 dX11_four_16 rfl (lv_at hl 0 rfl) ?_
  refine lv_ishr E.1 E.2.1 dX11_four_17 ?_
  refine lv_i2b E.1 E.2.1 dX11_four_18 rfl ?_
  refine m_bast E G 1 rfl (by unfold vp_in; decide) dX11_four_19 (fun H locs G => ?_)
  obtain ⟨f_1, ef_1⟩ : ∃ f_1 : Nat → Int32, f_1 = (upd f0 (16 : Int32).toNatClampNeg (vp_nar .byte ((p1 >>> ((24 : Int32) &&& 31)).toInt8.toInt32))) := ⟨_, rfl⟩
  have G : mG D A s H locs [(h0, .inr (11, [.ref m_tape, .int 16, .int 0, .ref m_sign, .ref m_length, .ref m_clause, .ref m_clauses, .ref m_read, .int 0, .int 0, .int 0, .int 0, .int 0, .int 0, .int 0, .ref m_open, .int 0, .ref m_stack, .int 0, .ref m_word, .ref m_said, .int (-1), .int 0, .ref m_goesTo, .ref m_hadBy, .ref m_wasSaid, .int 0, .ref m_kept, .ref m_hasBy, .ref m_standsThen, .ref m_isFit, .ref m_cornerThen, .long 0, .ref m_images, .ref m_imageForce, .ref m_imageX, .ref m_isMade])), (m_tape, .inl (K 1, 400, .inl f_1))] := by subst ef_1; exact G
  clear ef_1
  refine lv_aload_n E.1 E.2.1 dX11_four_20 rfl (lv_at hl 1 rfl) ?_
  refine lv_dup E.1 E.2.1 dX11_four_21 rfl ?_
  refine m_get E G 0 (ci := 11) rfl 1 (C := RX11) (T := TX11) (N := 37) rfl (by decide) mw_fl_11_83 (v := .int 16) rfl dX11_four_22 ?_
  refine lv_iconst (v := 1) E.1 E.2.1 dX11_four_25 (by decide) ?_
  refine lv_iadd E.1 E.2.1 dX11_four_26 ?_
  refine m_ci 17 (by decide) ?_
  refine m_put E G 0 (ci := 11) rfl 1 (C := RX11) (T := TX11) (N := 37) rfl (by decide) mw_fl_11_83 rfl rfl rfl (Nat.le_of_ble_eq_true rfl) dX11_four_27 (fun H locs G => ?_)
  have G : mG D A s H locs [(h0, .inr (11, [.ref m_tape, .int 17, .int 0, .ref m_sign, .ref m_length, .ref m_clause, .ref m_clauses, .ref m_read, .int 0, .int 0, .int 0, .int 0, .int 0, .int 0, .int 0, .ref m_open, .int 0, .ref m_stack, .int 0, .ref m_word, .ref m_said, .int (-1), .int 0, .ref m_goesTo, .ref m_hadBy, .ref m_wasSaid, .int 0, .ref m_kept, .ref m_hasBy, .ref m_standsThen, .ref m_isFit, .ref m_cornerThen, .long 0, .ref m_images, .ref m_imageForce, .ref m_imageX, .ref m_isMade])), (m_tape, .inl (K 1, 400, .inl f_1))] := G
  refine lv_iinc (v := 16) (lv' := [(2, .int 16), (0, .ref h0), (1, .int p1)]) E.1 E.2.1 dX11_four_30 hl (k := 0) rfl (by decide) (by decide) rfl (fun ls hl => ?_)
  refine lv_goto (tgt := 3) E.1 E.2.1 dX11_four_33 (by decide) ?_
  refine lv_iload_n E.1 E.2.1 dX11_four_3 rfl (lv_at hl 0 rfl) ?_
  refine lv_if_lt (tgt := 36) E.1 E.2.1 dX11_four_4 (by decide) (fun h => absurd h (by decide)) (fun _ => ?_)
  refine lv_aload_n E.1 E.2.1 dX11_four_7 rfl (lv_at hl 1 rfl) ?_
  refine m_get E G 0 (ci := 11) rfl 0 (C := RX11) (T := TX11) (N := 37) rfl (by decide) mw_fl_11_7 (v := .ref m_tape) rfl dX11_four_8 ?_
  refine lv_aload_n E.1 E.2.1 dX11_four_11 rfl (lv_at hl 1 rfl) ?_
  refine m_get E G 0 (ci := 11) rfl 1 (C := RX11) (T := TX11) (N := 37) rfl (by decide) mw_fl_11_83 (v := .int 17) rfl dX11_four_12 ?_
  refine lv_iload_n E.1 E.2.1 dX11_four_15 rfl (lv_at hl 2 rfl) ?_
  refine lv_iload_n E.1 E.2.1 dX11_four_16 rfl (lv_at hl 0 rfl) ?_
  refine lv_ishr E.1 E.2.1 dX11_four_17 ?_
  refine lv_i2b E.1 E.2.1 dX11_four_18 rfl ?_
  refine m_bast E G 1 rfl (by unfold vp_in; decide) dX11_four_19 (fun H locs G => ?_)
  obtain ⟨f_2, ef_2⟩ : ∃ f_2 : Nat → Int32, f_2 = (upd f_1 (17 : Int32).toNatClampNeg (vp_nar .byte ((p1 >>> ((16 : Int32) &&& 31)).toInt8.toInt32))) := ⟨_, rfl⟩
  have G : mG D A s H locs [(h0, .inr (11, [.ref m_tape, .int 17, .int 0, .ref m_sign, .ref m_length, .ref m_clause, .ref m_clauses, .ref m_read, .int 0, .int 0, .int 0, .int 0, .int 0, .int 0, .int 0, .ref m_open, .int 0, .ref m_stack, .int 0, .ref m_word, .ref m_said, .int (-1), .int 0, .ref m_goesTo, .ref m_hadBy, .ref m_wasSaid, .int 0, .ref m_kept, .ref m_hasBy, .ref m_standsThen, .ref m_isFit, .ref m_cornerThen, .long 0, .ref m_images, .ref m_imageForce, .ref m_imageX, .ref m_isMade])), (m_tape, .inl (K 1, 400, .inl f_2))] := by subst ef_2; exact G
  clear ef_2
  refine lv_aload_n E.1 E.2.1 dX11_four_20 rfl (lv_at hl 1 rfl) ?_
  refine lv_dup E.1 E.2.1 dX11_four_21 rfl ?_
  refine m_get E G 0 (ci := 11) rfl 1 (C := RX11) (T := TX11) (N := 37) rfl (by decide) mw_fl_11_83 (v := .int 17) rfl dX11_four_22 ?_
  refine lv_iconst (v := 1) E.1 E.2.1 dX11_four_25 (by decide) ?_
  refine lv_iadd E.1 E.2.1 dX11_four_26 ?_
  refine m_ci 18 (by decide) ?_
  refine m_put E G 0 (ci := 11) rfl 1 (C := RX11) (T := TX11) (N := 37) rfl (by decide) mw_fl_11_83 rfl rfl rfl (Nat.le_of_ble_eq_true rfl) dX11_four_27 (fun H locs G => ?_)
  have G : mG D A s H locs [(h0, .inr (11, [.ref m_tape, .int 18, .int 0, .ref m_sign, .ref m_length, .ref m_clause, .ref m_clauses, .ref m_read, .int 0, .int 0, .int 0, .int 0, .int 0, .int 0, .int 0, .ref m_open, .int 0, .ref m_stack, .int 0, .ref m_word, .ref m_said, .int (-1), .int 0, .ref m_goesTo, .ref m_hadBy, .ref m_wasSaid, .int 0, .ref m_kept, .ref m_hasBy, .ref m_standsThen, .ref m_isFit, .ref m_cornerThen, .long 0, .ref m_images, .ref m_imageForce, .ref m_imageX, .ref m_isMade])), (m_tape, .inl (K 1, 400, .inl f_2))] := G
  refine lv_iinc (v := 8) (lv' := [(2, .int 8), (0, .ref h0), (1, .int p1)]) E.1 E.2.1 dX11_four_30 hl (k := 0) rfl (by decide) (by decide) rfl (fun ls hl => ?_)
  refine lv_goto (tgt := 3) E.1 E.2.1 dX11_four_33 (by decide) ?_
  refine lv_iload_n E.1 E.2.1 dX11_four_3 rfl (lv_at hl 0 rfl) ?_
  refine lv_if_lt (tgt := 36) E.1 E.2.1 dX11_four_4 (by decide) (fun h => absurd h (by decide)) (fun _ => ?_)
  refine lv_aload_n E.1 E.2.1 dX11_four_7 rfl (lv_at hl 1 rfl) ?_
  refine m_get E G 0 (ci := 11) rfl 0 (C := RX11) (T := TX11) (N := 37) rfl (by decide) mw_fl_11_7 (v := .ref m_tape) rfl dX11_four_8 ?_
  refine lv_aload_n E.1 E.2.1 dX11_four_11 rfl (lv_at hl 1 rfl) ?_
  refine m_get E G 0 (ci := 11) rfl 1 (C := RX11) (T := TX11) (N := 37) rfl (by decide) mw_fl_11_83 (v := .int 18) rfl dX11_four_12 ?_
  refine lv_iload_n E.1 E.2.1 dX11_four_15 rfl (lv_at hl 2 rfl) ?_
  refine lv_iload_n E.1 E.2.1 dX11_four_16 rfl (lv_at hl 0 rfl) ?_
  refine lv_ishr E.1 E.2.1 dX11_four_17 ?_
  refine lv_i2b E.1 E.2.1 dX11_four_18 rfl ?_
  refine m_bast E G 1 rfl (by unfold vp_in; decide) dX11_four_19 (fun H locs G => ?_)
  obtain ⟨f_3, ef_3⟩ : ∃ f_3 : Nat → Int32, f_3 = (upd f_2 (18 : Int32).toNatClampNeg (vp_nar .byte ((p1 >>> ((8 : Int32) &&& 31)).toInt8.toInt32))) := ⟨_, rfl⟩
  have G : mG D A s H locs [(h0, .inr (11, [.ref m_tape, .int 18, .int 0, .ref m_sign, .ref m_length, .ref m_clause, .ref m_clauses, .ref m_read, .int 0, .int 0, .int 0, .int 0, .int 0, .int 0, .int 0, .ref m_open, .int 0, .ref m_stack, .int 0, .ref m_word, .ref m_said, .int (-1), .int 0, .ref m_goesTo, .ref m_hadBy, .ref m_wasSaid, .int 0, .ref m_kept, .ref m_hasBy, .ref m_standsThen, .ref m_isFit, .ref m_cornerThen, .long 0, .ref m_images, .ref m_imageForce, .ref m_imageX, .ref m_isMade])), (m_tape, .inl (K 1, 400, .inl f_3))] := by subst ef_3; exact G
  clear ef_3
  refine lv_aload_n E.1 E.2.1 dX11_four_20 rfl (lv_at hl 1 rfl) ?_
  refine lv_dup E.1 E.2.1 dX11_four_21 rfl ?_
  refine m_get E G 0 (ci := 11) rfl 1 (C := RX11) (T := TX11) (N := 37) rfl (by decide) mw_fl_11_83 (v := .int 18) rfl dX11_four_22 ?_
  refine lv_iconst (v := 1) E.1 E.2.1 dX11_four_25 (by decide) ?_
  refine lv_iadd E.1 E.2.1 dX11_four_26 ?_
  refine m_ci 19 (by decide) ?_
  refine m_put E G 0 (ci := 11) rfl 1 (C := RX11) (T := TX11) (N := 37) rfl (by decide) mw_fl_11_83 rfl rfl rfl (Nat.le_of_ble_eq_true rfl) dX11_four_27 (fun H locs G => ?_)
  have G : mG D A s H locs [(h0, .inr (11, [.ref m_tape, .int 19, .int 0, .ref m_sign, .ref m_length, .ref m_clause, .ref m_clauses, .ref m_read, .int 0, .int 0, .int 0, .int 0, .int 0, .int 0, .int 0, .ref m_open, .int 0, .ref m_stack, .int 0, .ref m_word, .ref m_said, .int (-1), .int 0, .ref m_goesTo, .ref m_hadBy, .ref m_wasSaid, .int 0, .ref m_kept, .ref m_hasBy, .ref m_standsThen, .ref m_isFit, .ref m_cornerThen, .long 0, .ref m_images, .ref m_imageForce, .ref m_imageX, .ref m_isMade])), (m_tape, .inl (K 1, 400, .inl f_3))] := G
  refine lv_iinc (v := 0) (lv' := [(2, .int 0), (0, .ref h0), (1, .int p1)]) E.1 E.2.1 dX11_four_30 hl (k := 0) rfl (by decide) (by decide) rfl (fun ls hl => ?_)
  refine lv_goto (tgt := 3) E.1 E.2.1 dX11_four_33 (by decide) ?_
  refine lv_iload_n E.1 E.2.1 dX11_four_3 rfl (lv_at hl 0 rfl) ?_
  refine lv_if_lt (tgt := 36) E.1 E.2.1 dX11_four_4 (by decide) (fun h => absurd h (by decide)) (fun _ => ?_)
  refine lv_aload_n E.1 E.2.1 dX11_four_7 rfl (lv_at hl 1 rfl) ?_
  refine m_get E G 0 (ci := 11) rfl 0 (C := RX11) (T := TX11) (N := 37) rfl (by decide) mw_fl_11_7 (v := .ref m_tape) rfl dX11_four_8 ?_
  refine lv_aload_n E.1 E.2.1 dX11_four_11 rfl (lv_at hl 1 rfl) ?_
  refine m_get E G 0 (ci := 11) rfl 1 (C := RX11) (T := TX11) (N := 37) rfl (by decide) mw_fl_11_83 (v := .int 19) rfl dX11_four_12 ?_
  refine lv_iload_n E.1 E.2.1 dX11_four_15 rfl (lv_at hl 2 rfl) ?_
  refine lv_iload_n E.1 E.2.1 dX11_four_16 rfl (lv_at hl 0 rfl) ?_
  refine lv_ishr E.1 E.2.1 dX11_four_17 ?_
  refine lv_i2b E.1 E.2.1 dX11_four_18 rfl ?_
  refine m_bast E G 1 rfl (by unfold vp_in; decide) dX11_four_19 (fun H locs G => ?_)
  obtain ⟨f_4, ef_4⟩ : ∃ f_4 : Nat → Int32, f_4 = (upd f_3 (19 : Int32).toNatClampNeg (vp_nar .byte ((p1 >>> ((0 : Int32) &&& 31)).toInt8.toInt32))) := ⟨_, rfl⟩
  have G : mG D A s H locs [(h0, .inr (11, [.ref m_tape, .int 19, .int 0, .ref m_sign, .ref m_length, .ref m_clause, .ref m_clauses, .ref m_read, .int 0, .int 0, .int 0, .int 0, .int 0, .int 0, .int 0, .ref m_open, .int 0, .ref m_stack, .int 0, .ref m_word, .ref m_said, .int (-1), .int 0, .ref m_goesTo, .ref m_hadBy, .ref m_wasSaid, .int 0, .ref m_kept, .ref m_hasBy, .ref m_standsThen, .ref m_isFit, .ref m_cornerThen, .long 0, .ref m_images, .ref m_imageForce, .ref m_imageX, .ref m_isMade])), (m_tape, .inl (K 1, 400, .inl f_4))] := by subst ef_4; exact G
  clear ef_4
  refine lv_aload_n E.1 E.2.1 dX11_four_20 rfl (lv_at hl 1 rfl) ?_
  refine lv_dup E.1 E.2.1 dX11_four_21 rfl ?_
  refine m_get E G 0 (ci := 11) rfl 1 (C := RX11) (T := TX11) (N := 37) rfl (by decide) mw_fl_11_83 (v := .int 19) rfl dX11_four_22 ?_
  refine lv_iconst (v := 1) E.1 E.2.1 dX11_four_25 (by decide) ?_
  refine lv_iadd E.1 E.2.1 dX11_four_26 ?_
  refine m_ci 20 (by decide) ?_
  refine m_put E G 0 (ci := 11) rfl 1 (C := RX11) (T := TX11) (N := 37) rfl (by decide) mw_fl_11_83 rfl rfl rfl (Nat.le_of_ble_eq_true rfl) dX11_four_27 (fun H locs G => ?_)
  have G : mG D A s H locs [(h0, .inr (11, [.ref m_tape, .int 20, .int 0, .ref m_sign, .ref m_length, .ref m_clause, .ref m_clauses, .ref m_read, .int 0, .int 0, .int 0, .int 0, .int 0, .int 0, .int 0, .ref m_open, .int 0, .ref m_stack, .int 0, .ref m_word, .ref m_said, .int (-1), .int 0, .ref m_goesTo, .ref m_hadBy, .ref m_wasSaid, .int 0, .ref m_kept, .ref m_hasBy, .ref m_standsThen, .ref m_isFit, .ref m_cornerThen, .long 0, .ref m_images, .ref m_imageForce, .ref m_imageX, .ref m_isMade])), (m_tape, .inl (K 1, 400, .inl f_4))] := G
  refine lv_iinc (v := (-8)) (lv' := [(2, .int (-8)), (0, .ref h0), (1, .int p1)]) E.1 E.2.1 dX11_four_30 hl (k := 0) rfl (by decide) (by decide) rfl (fun ls hl => ?_)
  refine lv_goto (tgt := 3) E.1 E.2.1 dX11_four_33 (by decide) ?_
  refine lv_iload_n E.1 E.2.1 dX11_four_3 rfl (lv_at hl 0 rfl) ?_
  refine lv_if_lt (tgt := 36) E.1 E.2.1 dX11_four_4 (by decide) (fun _ => ?_) (fun h => absurd (by decide) h)
  exact m_retv E G hr (fun _ => 0, fun k => ([f_4] : List (Nat → Int32)).getD k (fun _ => 0), fun _ _ => none) trivial [0, 1] (by decide) rfl (by decide) (by decide) dX11_four_36
