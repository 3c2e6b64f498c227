set_option maxHeartbeats 4000000 in
set_option maxRecDepth 100000 in
theorem law_bait {p : Program} {e : Env} {s : State} {m : MethodId} {below : List Frame} {meth : Method} {c : Code} (l : Launch) {b : Nat} {xs : Nat → Int32} {D : va_G} {K : Nat → ClassId} {A : Nat → Prop} (h0 : Nat) (tp : Nat) (tr : Nat) (rr : Nat) (dr : Nat) (rs : Nat) (nr : Nat) (nw : Nat) (im : Nat) (ac : Nat) (co : Nat) (al : Nat) (ta : Nat) (ma : Nat) (ga : Nat) (og : Nat) (pl : Nat) (sa : Nat) (no : Nat) (j0 : Nat) (j1 : Nat) (j2 : Nat) (j3 : Nat) (j4 : Nat) (j5 : Nat) (y0 : Nat) (m_tape : Nat) (m_sign : Nat) (m_length : Nat) (m_clause : Nat) (m_clauses : Nat) (m_read : Nat) (m_open : Nat) (m_stack : Nat) (m_word : Nat) (m_said : Nat) (m_goesTo : Nat) (m_hadBy : Nat) (m_wasSaid : Nat) (m_kept : Nat) (m_hasBy : Nat) (m_standsThen : Nat) (m_isFit : Nat) (m_cornerThen : Nat) (m_images : Nat) (m_imageForce : Nat) (m_imageX : Nat) (m_isMade : Nat) (E : mE p s m meth c code #[Value.ref b] 4 RL D K A) (hr : meth.sig.returnType = ret) (hX : va_X b 6 xs s s.heap) (hbl : b < s.heap.size) (hbA : ¬ A b) (hge : ∀ q : Nat, A q → s.heap.size ≤ q) {H : Heap} {locs : List Loc} {ls : Array Slot} (G : mG D A s H locs [(h0, .inr (10, [.ref tp, .ref tr, .ref rr, .ref dr, .ref rs, .int 0, .ref nr, .ref nw, .ref im, .int 0, .ref ac, .ref co, .ref al, .ref ta, .ref ma, .ref ga, .ref og])), (nw, .inr (2, [.ref pl, .ref sa, .ref no, .int (-1), .int 0])), (pl, .inr (8, [.int 0, .int 0, .int 0, .int 0, .ref j0, .ref j1, .ref j2, .ref j3, .ref j4, .ref j5])), (y0, .inr (11, [.ref m_tape, .int 0, .int 0, .ref m_sign, .ref m_length, .ref m_clause, .ref m_clauses, .ref m_read, .int 0, .int 0, .int 0, .int 0, .int 0, .int 0, .int 0, .ref m_open, .int 0, .ref m_stack, .int 0, .ref m_word, .ref m_said, .int (-1), .int 0, .ref m_goesTo, .ref m_hadBy, .ref m_wasSaid, .int 0, .ref m_kept, .ref m_hasBy, .ref m_standsThen, .ref m_isFit, .ref m_cornerThen, .long 0, .ref m_images, .ref m_imageForce, .ref m_imageX, .ref m_isMade])), (m_said, .inl (K 0, 127, .inl (fun _ => 0)))]) (hl : lv_has ls 4 [(3, .int 0), (2, .ref y0), (1, .ref h0), (0, .ref b)]) : W p l e room_1 s m #[Value.ref b] below meth c H locs 600000 7302250 (lw_Z below #[Value.ref b] s) (F0 m 495 ls []) := by
  refine lv_aload_n E.1 E.2.1 dL_law_495 rfl (lv_at hl 2 rfl) ?_
  refine lv_aload_n E.1 E.2.1 dL_law_496 rfl (lv_at hl 3 rfl) ?_
  refine lv_iload_n E.1 E.2.1 dL_law_497 rfl (lv_at hl 0 rfl) ?_
  refine lv_iconst (v := 1) E.1 E.2.1 dL_law_498 (by decide) ?_
  refine lv_iadd E.1 E.2.1 dL_law_499 ?_
  refine m_ci 1 (by decide) ?_
  refine va_sld E.1 E.2.1 hX hbl hbA G.2.2 (by unfold vp_in; decide) dL_law_500 ?_
  refine m_ci (xs 1) rfl ?_
  refine lv_aload_n E.1 E.2.1 dL_law_501 rfl (lv_at hl 3 rfl) ?_
  refine lv_iload_n E.1 E.2.1 dL_law_502 rfl (lv_at hl 0 rfl) ?_
  refine lv_iconst (v := 2) E.1 E.2.1 dL_law_503 (by decide) ?_
  refine lv_iadd E.1 E.2.1 dL_law_504 ?_
  refine m_ci 2 (by decide) ?_
  refine va_sld E.1 E.2.1 hX hbl hbA G.2.2 (by unfold vp_in; decide) dL_law_505 ?_
  refine m_ci (xs 2) rfl ?_
  refine m_vi E G hl (k_bait l D K h0 tp tr rr dr rs nr nw im ac co al ta ma ga og pl sa no j0 j1 j2 j3 j4 j5 (xs 1) (xs 2)) (wr := [(y0, .inr (11, [.ref m_tape, .int 0, .int 0, .ref m_sign, .ref m_length, .ref m_clause, .ref m_clauses, .ref m_read, .int 0, .int 0, .int 0, .int 0, .int 0, .int 0, .int 0, .ref m_open, .int 0, .ref m_stack, .int 0, .ref m_word, .ref m_said, .int (-1), .int 0, .ref m_goesTo, .ref m_hadBy, .ref m_wasSaid, .int 0, .ref m_kept, .ref m_hasBy, .ref m_standsThen, .ref m_isFit, .ref m_cornerThen, .long 0, .ref m_images, .ref m_imageForce, .ref m_imageX, .ref m_isMade])), (m_said, .inl (K 0, 127, .inl (fun _ => 0)))]) [0, 1, 2] [3, 4] rfl rfl (by decide) (by decide) (by decide) 0 (ci := 10) rfl rfl rfl 2 rfl mw_code_X10_bait mw_ini_10 mw_ml_L_61 mw_inst_X10_bait mw_sel_X10_bait hd_X10_bait ⟨by decide, by decide⟩ rfl (Nat.le_of_ble_eq_true rfl) ⟨by decide, by decide⟩ dL_law_506 (fun r_2 u_1 H locs hp G => ?_)
  have G : mG D A s H locs [(y0, .inr (11, [.ref m_tape, .int 0, .int 0, .ref m_sign, .ref m_length, .ref m_clause, .ref m_clauses, .ref m_read, .int 0, .int 0, .int 0, .int 0, .int 0, .int 0, .int 0, .ref m_open, .int 0, .ref m_stack, .int 0, .ref m_word, .ref m_said, .int (-1), .int 0, .ref m_goesTo, .ref m_hadBy, .ref m_wasSaid, .int 0, .ref m_kept, .ref m_hasBy, .ref m_standsThen, .ref m_isFit, .ref m_cornerThen, .long 0, .ref m_images, .ref m_imageForce, .ref m_imageX, .ref m_isMade])), (m_said, .inl (K 0, 127, .inl (fun _ => 0)))] := G
  subst hp
  refine lv_aload_n E.1 E.2.1 dL_law_509 rfl (lv_at hl 1 rfl) ?_
  refine lv_aload_n E.1 E.2.1 dL_law_510 rfl (lv_at hl 3 rfl) ?_
  refine lv_iload_n E.1 E.2.1 dL_law_511 rfl (lv_at hl 0 rfl) ?_
  refine lv_iconst (v := 1) E.1 E.2.1 dL_law_512 (by decide) ?_
  refine lv_iadd E.1 E.2.1 dL_law_513 ?_
  refine m_ci 1 (by decide) ?_
  refine va_sld E.1 E.2.1 hX hbl hbA G.2.2 (by unfold vp_in; decide) dL_law_514 ?_
  refine m_ci (xs 1) rfl ?_
  refine lv_aload_n E.1 E.2.1 dL_law_515 rfl (lv_at hl 3 rfl) ?_
  refine lv_iload_n E.1 E.2.1 dL_law_516 rfl (lv_at hl 0 rfl) ?_
  refine lv_iconst (v := 2) E.1 E.2.1 dL_law_517 (by decide) ?_
  refine lv_iadd E.1 E.2.1 dL_law_518 ?_
  refine m_ci 2 (by decide) ?_
  refine va_sld E.1 E.2.1 hX hbl hbA G.2.2 (by unfold vp_in; decide) dL_law_519 ?_
  refine m_ci (xs 2) rfl ?_
  refine m_vi E G hl (r_bait l D K y0 m_tape m_sign m_length m_clause m_clauses m_read m_open m_stack m_word m_said m_goesTo m_hadBy m_wasSaid m_kept m_hasBy m_standsThen m_isFit m_cornerThen m_images m_imageForce m_imageX m_isMade (xs 1) (xs 2)) (wr := []) [0, 1] [] rfl rfl (by decide) (by decide) (by decide) 0 (ci := 11) rfl rfl rfl 2 rfl mw_code_X11_bait mw_ini_11 mw_ml_L_64 mw_inst_X11_bait mw_sel_X11_bait hd_X11_bait ⟨by decide, by decide⟩ rfl (Nat.le_of_ble_eq_true rfl) ⟨by decide, by decide⟩ dL_law_520 (fun r_4 u_3 H locs hp G => ?_)
  have G : mG D A s H locs [] := G
  subst hp
  refine lv_icmp_eq (tgt := 1250) E.1 E.2.1 dL_law_523 (by decide) (fun _ => ?_) (fun h => absurd (by decide) h)
  exact law_tail l E hr hX hbl hbA hge G.2.2 (lv_sub hl [3, 0] rfl)
set_option maxHeartbeats 4000000 in
set_option maxRecDepth 100000 in
theorem law_calm {p : Program} {e : Env} {s : State} {m : MethodId} {below : List Frame} {meth : Method} {c : Code} (l : Launch) {b : Nat} {xs : Nat → Int32} {D : va_G} {K : Nat → ClassId} {A : Nat → Prop} (h0 : Nat) (tp : Nat) (tr : Nat) (rr : Nat) (dr : Nat) (rs : Nat) (nr : Nat) (nw : Nat) (im : Nat) (ac : Nat) (co : Nat) (al : Nat) (ta : Nat) (ma : Nat) (ga : Nat) (og : Nat) (pl : Nat) (sa : Nat) (no : Nat) (j0 : Nat) (j1 : Nat) (j2 : Nat) (j3 : Nat) (j4 : Nat) (j5 : Nat) (y0 : Nat) (m_tape : Nat) (m_sign : Nat) (m_length : Nat) (m_clause : Nat) (m_clauses : Nat) (m_read : Nat) (m_open : Nat) (m_stack : Nat) (m_word : Nat) (m_said : Nat) (m_goesTo : Nat) (m_hadBy : Nat) (m_wasSaid : Nat) (m_kept : Nat) (m_hasBy : Nat) (m_standsThen : Nat) (m_isFit : Nat) (m_cornerThen : Nat) (m_images : Nat) (m_imageForce : Nat) (m_imageX : Nat) (m_isMade : Nat) (E : mE p s m meth c code #[Value.ref b] 4 RL D K A) (hr : meth.sig.returnType = ret) (hX : va_X b 6 xs s s.heap) (hbl : b < s.heap.size) (hbA : ¬ A b) (hge : ∀ q : Nat, A q → s.heap.size ≤ q) {H : Heap} {locs : List Loc} {ls : Array Slot} (G : mG D A s H locs [(h0, .inr (10, [.ref tp, .ref tr, .ref rr, .ref dr, .ref rs, .int 0, .ref nr, .ref nw, .ref im, .int 0, .ref ac, .ref co, .ref al, .ref ta, .ref ma, .ref ga, .ref og])), (nw, .inr (2, [.ref pl, .ref sa, .ref no, .int (-1), .int 0])), (pl, .inr (8, [.int 0, .int 0, .int 0, .int 0, .ref j0, .ref j1, .ref j2, .ref j3, .ref j4, .ref j5])), (y0, .inr (11, [.ref m_tape, .int 0, .int 0, .ref m_sign, .ref m_length, .ref m_clause, .ref m_clauses, .ref m_read, .int 0, .int 0, .int 0, .int 0, .int 0, .int 0, .int 0, .ref m_open, .int 0, .ref m_stack, .int 0, .ref m_word, .ref m_said, .int (-1), .int 0, .ref m_goesTo, .ref m_hadBy, .ref m_wasSaid, .int 0, .ref m_kept, .ref m_hasBy, .ref m_standsThen, .ref m_isFit, .ref m_cornerThen, .long 0, .ref m_images, .ref m_imageForce, .ref m_imageX, .ref m_isMade])), (m_said, .inl (K 0, 127, .inl (fun _ => 0)))]) (hl : lv_has ls 4 [(3, .int 0), (2, .ref y0), (1, .ref h0), (0, .ref b)]) : W p l e room_1 s m #[Value.ref b] below meth c H locs 600000 7302250 (lw_Z below #[Value.ref b] s) (F0 m 528 ls []) := by
  refine lv_aload_n E.1 E.2.1 dL_law_528 rfl (lv_at hl 2 rfl) ?_
  refine lv_aload_n E.1 E.2.1 dL_law_529 rfl (lv_at hl 3 rfl) ?_
  refine lv_iload_n E.1 E.2.1 dL_law_530 rfl (lv_at hl 0 rfl) ?_
  refine lv_iconst (v := 1) E.1 E.2.1 dL_law_531 (by decide) ?_
  refine lv_iadd E.1 E.2.1 dL_law_532 ?_
  refine m_ci 1 (by decide) ?_
  refine va_sld E.1 E.2.1 hX hbl hbA G.2.2 (by unfold vp_in; decide) dL_law_533 ?_
  refine m_ci (xs 1) rfl ?_
  refine lv_aload_n E.1 E.2.1 dL_law_534 rfl (lv_at hl 3 rfl) ?_
  refine lv_iload_n E.1 E.2.1 dL_law_535 rfl (lv_at hl 0 rfl) ?_
  refine lv_iconst (v := 2) E.1 E.2.1 dL_law_536 (by decide) ?_
  refine lv_iadd E.1 E.2.1 dL_law_537 ?_
  refine m_ci 2 (by decide) ?_
  refine va_sld E.1 E.2.1 hX hbl hbA G.2.2 (by unfold vp_in; decide) dL_law_538 ?_
  refine m_ci (xs 2) rfl ?_
  refine m_vi E G hl (k_calm l D K h0 tp tr rr dr rs nr nw im ac co al ta ma ga og pl sa no j0 j1 j2 j3 j4 j5 (xs 1) (xs 2)) (wr := [(y0, .inr (11, [.ref m_tape, .int 0, .int 0, .ref m_sign, .ref m_length, .ref m_clause, .ref m_clauses, .ref m_read, .int 0, .int 0, .int 0, .int 0, .int 0, .int 0, .int 0, .ref m_open, .int 0, .ref m_stack, .int 0, .ref m_word, .ref m_said, .int (-1), .int 0, .ref m_goesTo, .ref m_hadBy, .ref m_wasSaid, .int 0, .ref m_kept, .ref m_hasBy, .ref m_standsThen, .ref m_isFit, .ref m_cornerThen, .long 0, .ref m_images, .ref m_imageForce, .ref m_imageX, .ref m_isMade])), (m_said, .inl (K 0, 127, .inl (fun _ => 0)))]) [0, 1, 2] [3, 4] rfl rfl (by decide) (by decide) (by decide) 0 (ci := 10) rfl rfl rfl 2 rfl mw_code_X10_calm mw_ini_10 mw_ml_L_65 mw_inst_X10_calm mw_sel_X10_calm hd_X10_calm ⟨by decide, by decide⟩ rfl (Nat.le_of_ble_eq_true rfl) ⟨by decide, by decide⟩ dL_law_539 (fun r_2 u_1 H locs hp G => ?_)
  have G : mG D A s H locs [(y0, .inr (11, [.ref m_tape, .int 0, .int 0, .ref m_sign, .ref m_length, .ref m_clause, .ref m_clauses, .ref m_read, .int 0, .int 0, .int 0, .int 0, .int 0, .int 0, .int 0, .ref m_open, .int 0, .ref m_stack, .int 0, .ref m_word, .ref m_said, .int (-1), .int 0, .ref m_goesTo, .ref m_hadBy, .ref m_wasSaid, .int 0, .ref m_kept, .ref m_hasBy, .ref m_standsThen, .ref m_isFit, .ref m_cornerThen, .long 0, .ref m_images, .ref m_imageForce, .ref m_imageX, .ref m_isMade])), (m_said, .inl (K 0, 127, .inl (fun _ => 0)))] := G
  subst hp
  refine lv_aload_n E.1 E.2.1 dL_law_542 rfl (lv_at hl 1 rfl) ?_
  refine lv_aload_n E.1 E.2.1 dL_law_543 rfl (lv_at hl 3 rfl) ?_
  refine lv_iload_n E.1 E.2.1 dL_law_544 rfl (lv_at hl 0 rfl) ?_
  refine lv_iconst (v := 1) E.1 E.2.1 dL_law_545 (by decide) ?_
  refine lv_iadd E.1 E.2.1 dL_law_546 ?_
  refine m_ci 1 (by decide) ?_
  refine va_sld E.1 E.2.1 hX hbl hbA G.2.2 (by unfold vp_in; decide) dL_law_547 ?_
  refine m_ci (xs 1) rfl ?_
  refine lv_aload_n E.1 E.2.1 dL_law_548 rfl (lv_at hl 3 rfl) ?_
  refine lv_iload_n E.1 E.2.1 dL_law_549 rfl (lv_at hl 0 rfl) ?_
  refine lv_iconst (v := 2) E.1 E.2.1 dL_law_550 (by decide) ?_
  refine lv_iadd E.1 E.2.1 dL_law_551 ?_
  refine m_ci 2 (by decide) ?_
  refine va_sld E.1 E.2.1 hX hbl hbA G.2.2 (by unfold vp_in; decide) dL_law_552 ?_
  refine m_ci (xs 2) rfl ?_
  refine m_vi E G hl (r_calm l D K y0 m_tape m_sign m_length m_clause m_clauses m_read m_open m_stack m_word m_said m_goesTo m_hadBy m_wasSaid m_kept m_hasBy m_standsThen m_isFit m_cornerThen m_images m_imageForce m_imageX m_isMade (xs 1) (xs 2)) (wr := []) [0, 1] [] rfl rfl (by decide) (by decide) (by decide) 0 (ci := 11) rfl rfl rfl 2 rfl mw_code_X11_calm mw_ini_11 mw_ml_L_68 mw_inst_X11_calm mw_sel_X11_calm hd_X11_calm ⟨by decide, by decide⟩ rfl (Nat.le_of_ble_eq_true rfl) ⟨by decide, by decide⟩ dL_law_553 (fun r_4 u_3 H locs hp G => ?_)
  have G : mG D A s H locs [] := G
  subst hp
  refine lv_icmp_eq (tgt := 1250) E.1 E.2.1 dL_law_556 (by decide) (fun _ => ?_) (fun h => absurd (by decide) h)
  exact law_tail l E hr hX hbl hbA hge G.2.2 (lv_sub hl [3, 0] rfl)
set_option maxHeartbeats 4000000 in
set_option maxRecDepth 100000 in
theorem law_undo {p : Program} {e : Env} {s : State} {m : MethodId} {below : List Frame} {meth : Method} {c : Code} (l : Launch) {b : Nat} {xs : Nat → Int32} {D : va_G} {K : Nat → ClassId} {A : Nat → Prop} (h0 : Nat) (tp : Nat) (tr : Nat) (rr : Nat) (dr : Nat) (rs : Nat) (nr : Nat) (nw : Nat) (im : Nat) (ac : Nat) (co : Nat) (al : Nat) (ta : Nat) (ma : Nat) (ga : Nat) (og : Nat) (b0 : Nat) (y0 : Nat) (m_tape : Nat) (m_sign : Nat) (m_length : Nat) (m_clause : Nat) (m_clauses : Nat) (m_read : Nat) (m_open : Nat) (m_stack : Nat) (m_word : Nat) (m_said : Nat) (m_goesTo : Nat) (m_hadBy : Nat) (m_wasSaid : Nat) (m_kept : Nat) (m_hasBy : Nat) (m_standsThen : Nat) (m_isFit : Nat) (m_cornerThen : Nat) (m_images : Nat) (m_imageForce : Nat) (m_imageX : Nat) (m_isMade : Nat) (E : mE p s m meth c code #[Value.ref b] 4 RL D K A) (hr : meth.sig.returnType = ret) (hX : va_X b 6 xs s s.heap) (hbl : b < s.heap.size) (hbA : ¬ A b) (hge : ∀ q : Nat, A q → s.heap.size ≤ q) {H : Heap} {locs : List Loc} {ls : Array Slot} (G : mG D A s H locs [(h0, .inr (10, [.ref tp, .ref tr, .ref rr, .ref dr, .ref rs, .int 0, .ref nr, .ref nw, .ref im, .int 0, .ref ac, .ref co, .ref al, .ref ta, .ref ma, .ref ga, .ref og])), (ac, .inr (0, [.int 0, .int 0, .ref b0])), (y0, .inr (11, [.ref m_tape, .int 0, .int 0, .ref m_sign, .ref m_length, .ref m_clause, .ref m_clauses, .ref m_read, .int 0, .int 0, .int 0, .int 0, .int 0, .int 0, .int 0, .ref m_open, .int 0, .ref m_stack, .int 0, .ref m_word, .ref m_said, .int (-1), .int 0, .ref m_goesTo, .ref m_hadBy, .ref m_wasSaid, .int 0, .ref m_kept, .ref m_hasBy, .ref m_standsThen, .ref m_isFit, .ref m_cornerThen, .long 0, .ref m_images, .ref m_imageForce, .ref m_imageX, .ref m_isMade]))]) (hl : lv_has ls 4 [(3, .int 0), (2, .ref y0), (1, .ref h0), (0, .ref b)]) : W p l e room_1 s m #[Value.ref b] below meth c H locs 600000 7302250 (lw_Z below #[Value.ref b] s) (F0 m 561 ls []) := by
  refine lv_aload_n E.1 E.2.1 dL_law_561 rfl (lv_at hl 2 rfl) ?_
  refine m_vi E G hl (k_undo l D K h0 tp tr rr dr rs nr nw im ac co al ta ma ga og b0) (wr := [(y0, .inr (11, [.ref m_tape, .int 0, .int 0, .ref m_sign, .ref m_length, .ref m_clause, .ref m_clauses, .ref m_read, .int 0, .int 0, .int 0, .int 0, .int 0, .int 0, .int 0, .ref m_open, .int 0, .ref m_stack, .int 0, .ref m_word, .ref m_said, .int (-1), .int 0, .ref m_goesTo, .ref m_hadBy, .ref m_wasSaid, .int 0, .ref m_kept, .ref m_hasBy, .ref m_standsThen, .ref m_isFit, .ref m_cornerThen, .long 0, .ref m_images, .ref m_imageForce, .ref m_imageX, .ref m_isMade]))]) [0, 1] [2] rfl rfl (by decide) (by decide) (by decide) 0 (ci := 10) rfl rfl rfl 0 rfl mw_code_X10_undo mw_ini_10 mw_ml_L_69 mw_inst_X10_undo mw_sel_X10_undo hd_X10_undo ⟨by decide, by decide⟩ rfl (Nat.le_of_ble_eq_true rfl) ⟨by decide, by decide⟩ dL_law_562 (fun r_2 u_1 H locs hp G => ?_)
  have G : mG D A s H locs [(y0, .inr (11, [.ref m_tape, .int 0, .int 0, .ref m_sign, .ref m_length, .ref m_clause, .ref m_clauses, .ref m_read, .int 0, .int 0, .int 0, .int 0, .int 0, .int 0, .int 0, .ref m_open, .int 0, .ref m_stack, .int 0, .ref m_word, .ref m_said, .int (-1), .int 0, .ref m_goesTo, .ref m_hadBy, .ref m_wasSaid, .int 0, .ref m_kept, .ref m_hasBy, .ref m_standsThen, .ref m_isFit, .ref m_cornerThen, .long 0, .ref m_images, .ref m_imageForce, .ref m_imageX, .ref m_isMade]))] := G
  subst hp
  refine lv_aload_n E.1 E.2.1 dL_law_565 rfl (lv_at hl 1 rfl) ?_
  refine m_vi E G hl (r_undo l D K y0 m_tape m_sign m_length m_clause m_clauses m_read m_open m_stack m_word m_said m_goesTo m_hadBy m_wasSaid m_kept m_hasBy m_standsThen m_isFit m_cornerThen m_images m_imageForce m_imageX m_isMade) (wr := []) [0] [] rfl rfl (by decide) (by decide) (by decide) 0 (ci := 11) rfl rfl rfl 0 rfl mw_code_X11_undo mw_ini_11 mw_ml_L_72 mw_inst_X11_undo mw_sel_X11_undo hd_X11_undo ⟨by decide, by decide⟩ rfl (Nat.le_of_ble_eq_true rfl) ⟨by decide, by decide⟩ dL_law_566 (fun r_4 u_3 H locs hp G => ?_)
  have G : mG D A s H locs [] := G
  subst hp
  refine lv_icmp_eq (tgt := 1250) E.1 E.2.1 dL_law_569 (by decide) (fun _ => ?_) (fun h => absurd (by decide) h)
  exact law_tail l E hr hX hbl hbA hge G.2.2 (lv_sub hl [3, 0] rfl)
set_option maxHeartbeats 4000000 in
set_option maxRecDepth 100000 in
theorem law_ahead {p : Program} {e : Env} {s : State} {m : MethodId} {below : List Frame} {meth : Method} {c : Code} (l : Launch) {b : Nat} {xs : Nat → Int32} {D : va_G} {K : Nat → ClassId} {A : Nat → Prop} (h0 : Nat) (tp : Nat) (tr : Nat) (rr : Nat) (dr : Nat) (rs : Nat) (nr : Nat) (nw : Nat) (im : Nat) (ac : Nat) (co : Nat) (al : Nat) (ta : Nat) (ma : Nat) (ga : Nat) (og : Nat) (pl : Nat) (sa : Nat) (no : Nat) (j0 : Nat) (j1 : Nat) (j2 : Nat) (j3 : Nat) (j4 : Nat) (j5 : Nat) (y0 : Nat) (m_tape : Nat) (m_sign : Nat) (m_length : Nat) (m_clause : Nat) (m_clauses : Nat) (m_read : Nat) (m_open : Nat) (m_stack : Nat) (m_word : Nat) (m_said : Nat) (m_goesTo : Nat) (m_hadBy : Nat) (m_wasSaid : Nat) (m_kept : Nat) (m_hasBy : Nat) (m_standsThen : Nat) (m_isFit : Nat) (m_cornerThen : Nat) (m_images : Nat) (m_imageForce : Nat) (m_imageX : Nat) (m_isMade : Nat) (E : mE p s m meth c code #[Value.ref b] 4 RL D K A) (hr : meth.sig.returnType = ret) (hX : va_X b 6 xs s s.heap) (hbl : b < s.heap.size) (hbA : ¬ A b) (hge : ∀ q : Nat, A q → s.heap.size ≤ q) {H : Heap} {locs : List Loc} {ls : Array Slot} (G : mG D A s H locs [(h0, .inr (10, [.ref tp, .ref tr, .ref rr, .ref dr, .ref rs, .int 0, .ref nr, .ref nw, .ref im, .int 0, .ref ac, .ref co, .ref al, .ref ta, .ref ma, .ref ga, .ref og])), (nw, .inr (2, [.ref pl, .ref sa, .ref no, .int (-1), .int 0])), (pl, .inr (8, [.int 0, .int 0, .int 0, .int 0, .ref j0, .ref j1, .ref j2, .ref j3, .ref j4, .ref j5])), (y0, .inr (11, [.ref m_tape, .int 0, .int 0, .ref m_sign, .ref m_length, .ref m_clause, .ref m_clauses, .ref m_read, .int 0, .int 0, .int 0, .int 0, .int 0, .int 0, .int 0, .ref m_open, .int 0, .ref m_stack, .int 0, .ref m_word, .ref m_said, .int (-1), .int 0, .ref m_goesTo, .ref m_hadBy, .ref m_wasSaid, .int 0, .ref m_kept, .ref m_hasBy, .ref m_standsThen, .ref m_isFit, .ref m_cornerThen, .long 0, .ref m_images, .ref m_imageForce, .ref m_imageX, .ref m_isMade])), (m_said, .inl (K 0, 127, .inl (fun _ => 0)))]) (hl : lv_has ls 4 [(3, .int 0), (2, .ref y0), (1, .ref h0), (0, .ref b)]) : W p l e room_1 s m #[Value.ref b] below meth c H locs 600000 7302250 (lw_Z below #[Value.ref b] s) (F0 m 574 ls []) := by
  refine lv_aload_n E.1 E.2.1 dL_law_574 rfl (lv_at hl 2 rfl) ?_
  refine lv_aload_n E.1 E.2.1 dL_law_575 rfl (lv_at hl 3 rfl) ?_
  refine lv_iload_n E.1 E.2.1 dL_law_576 rfl (lv_at hl 0 rfl) ?_
  refine lv_iconst (v := 1) E.1 E.2.1 dL_law_577 (by decide) ?_
  refine lv_iadd E.1 E.2.1 dL_law_578 ?_
  refine m_ci 1 (by decide) ?_
  refine va_sld E.1 E.2.1 hX hbl hbA G.2.2 (by unfold vp_in; decide) dL_law_579 ?_
  refine m_ci (xs 1) rfl ?_
  refine lv_aload_n E.1 E.2.1 dL_law_580 rfl (lv_at hl 3 rfl) ?_
  refine lv_iload_n E.1 E.2.1 dL_law_581 rfl (lv_at hl 0 rfl) ?_
  refine lv_iconst (v := 2) E.1 E.2.1 dL_law_582 (by decide) ?_
  refine lv_iadd E.1 E.2.1 dL_law_583 ?_
  refine m_ci 2 (by decide) ?_
  refine va_sld E.1 E.2.1 hX hbl hbA G.2.2 (by unfold vp_in; decide) dL_law_584 ?_
  refine m_ci (xs 2) rfl ?_
  refine lv_aload_n E.1 E.2.1 dL_law_585 rfl (lv_at hl 3 rfl) ?_
  refine lv_iload_n E.1 E.2.1 dL_law_586 rfl (lv_at hl 0 rfl) ?_
  refine lv_iconst (v := 3) E.1 E.2.1 dL_law_587 (by decide) ?_
  refine lv_iadd E.1 E.2.1 dL_law_588 ?_
  refine m_ci 3 (by decide) ?_
  refine va_sld E.1 E.2.1 hX hbl hbA G.2.2 (by unfold vp_in; decide) dL_law_589 ?_
  refine m_ci (xs 3) rfl ?_
  refine m_vi E G hl (k_ahead l D K h0 tp tr rr dr rs nr nw im ac co al ta ma ga og pl sa no j0 j1 j2 j3 j4 j5 (xs 1) (xs 2) (xs 3)) (wr := [(y0, .inr (11, [.ref m_tape, .int 0, .int 0, .ref m_sign, .ref m_length, .ref m_clause, .ref m_clauses, .ref m_read, .int 0, .int 0, .int 0, .int 0, .int 0, .int 0, .int 0, .ref m_open, .int 0, .ref m_stack, .int 0, .ref m_word, .ref m_said, .int (-1), .int 0, .ref m_goesTo, .ref m_hadBy, .ref m_wasSaid, .int 0, .ref m_kept, .ref m_hasBy, .ref m_standsThen, .ref m_isFit, .ref m_cornerThen, .long 0, .ref m_images, .ref m_imageForce, .ref m_imageX, .ref m_isMade])), (m_said, .inl (K 0, 127, .inl (fun _ => 0)))]) [0, 1, 2] [3, 4] rfl rfl (by decide) (by decide) (by decide) 0 (ci := 10) rfl rfl rfl 3 rfl mw_code_X10_ahead mw_ini_10 mw_ml_L_73 mw_inst_X10_ahead mw_sel_X10_ahead hd_X10_ahead ⟨by decide, by decide⟩ rfl (Nat.le_of_ble_eq_true rfl) ⟨by decide, by decide⟩ dL_law_590 (fun r_2 u_1 H locs hp G => ?_)
  have G : mG D A s H locs [(y0, .inr (11, [.ref m_tape, .int 0, .int 0, .ref m_sign, .ref m_length, .ref m_clause, .ref m_clauses, .ref m_read, .int 0, .int 0, .int 0, .int 0, .int 0, .int 0, .int 0, .ref m_open, .int 0, .ref m_stack, .int 0, .ref m_word, .ref m_said, .int (-1), .int 0, .ref m_goesTo, .ref m_hadBy, .ref m_wasSaid, .int 0, .ref m_kept, .ref m_hasBy, .ref m_standsThen, .ref m_isFit, .ref m_cornerThen, .long 0, .ref m_images, .ref m_imageForce, .ref m_imageX, .ref m_isMade])), (m_said, .inl (K 0, 127, .inl (fun _ => 0)))] := G
  subst hp
  refine lv_aload_n E.1 E.2.1 dL_law_593 rfl (lv_at hl 1 rfl) ?_
  refine lv_aload_n E.1 E.2.1 dL_law_594 rfl (lv_at hl 3 rfl) ?_
  refine lv_iload_n E.1 E.2.1 dL_law_595 rfl (lv_at hl 0 rfl) ?_
  refine lv_iconst (v := 1) E.1 E.2.1 dL_law_596 (by decide) ?_
  refine lv_iadd E.1 E.2.1 dL_law_597 ?_
  refine m_ci 1 (by decide) ?_
  refine va_sld E.1 E.2.1 hX hbl hbA G.2.2 (by unfold vp_in; decide) dL_law_598 ?_
  refine m_ci (xs 1) rfl ?_
  refine lv_aload_n E.1 E.2.1 dL_law_599 rfl (lv_at hl 3 rfl) ?_
  refine lv_iload_n E.1 E.2.1 dL_law_600 rfl (lv_at hl 0 rfl) ?_
  refine lv_iconst (v := 2) E.1 E.2.1 dL_law_601 (by decide) ?_
  refine lv_iadd E.1 E.2.1 dL_law_602 ?_
  refine m_ci 2 (by decide) ?_
  refine va_sld E.1 E.2.1 hX hbl hbA G.2.2 (by unfold vp_in; decide) dL_law_603 ?_
  refine m_ci (xs 2) rfl ?_
  refine lv_aload_n E.1 E.2.1 dL_law_604 rfl (lv_at hl 3 rfl) ?_
  refine lv_iload_n E.1 E.2.1 dL_law_605 rfl (lv_at hl 0 rfl) ?_
  refine lv_iconst (v := 3) E.1 E.2.1 dL_law_606 (by decide) ?_
  refine lv_iadd E.1 E.2.1 dL_law_607 ?_
  refine m_ci 3 (by decide) ?_
  refine va_sld E.1 E.2.1 hX hbl hbA G.2.2 (by unfold vp_in; decide) dL_law_608 ?_
  refine m_ci (xs 3) rfl ?_
  refine m_vi E G hl (r_ahead l D K y0 m_tape m_sign m_length m_clause m_clauses m_read m_open m_stack m_word m_said m_goesTo m_hadBy m_wasSaid m_kept m_hasBy m_standsThen m_isFit m_cornerThen m_images m_imageForce m_imageX m_isMade (xs 1) (xs 2) (xs 3)) (wr := []) [0, 1] [] rfl rfl (by decide) (by decide) (by decide) 0 (ci := 11) rfl rfl rfl 3 rfl mw_code_X11_ahead mw_ini_11 mw_ml_L_77 mw_inst_X11_ahead mw_sel_X11_ahead hd_X11_ahead ⟨by decide, by decide⟩ rfl (Nat.le_of_ble_eq_true rfl) ⟨by decide, by decide⟩ dL_law_609 (fun r_4 u_3 H locs hp G => ?_)
  have G : mG D A s H locs [] := G
  subst hp
  refine lv_icmp_eq (tgt := 1250) E.1 E.2.1 dL_law_612 (by decide) (fun _ => ?_) (fun h => absurd (by decide) h)
  exact law_tail l E hr hX hbl hbA hge G.2.2 (lv_sub hl [3, 0] rfl)
set_option maxHeartbeats 4000000 in
set_option maxRecDepth 100000 in
theorem law_had {p : Program} {e : Env} {s : State} {m : MethodId} {below : List Frame} {meth : Method} {c : Code} (l : Launch) {b : Nat} {xs : Nat → Int32} {D : va_G} {K : Nat → ClassId} {A : Nat → Prop} (h0 : Nat) (tp : Nat) (tr : Nat) (rr : Nat) (dr : Nat) (rs : Nat) (nr : Nat) (nw : Nat) (im : Nat) (ac : Nat) (co : Nat) (al : Nat) (ta : Nat) (ma : Nat) (ga : Nat) (og : Nat) (pl : Nat) (sa : Nat) (no : Nat) (j0 : Nat) (j1 : Nat) (j2 : Nat) (j3 : Nat) (j4 : Nat) (j5 : Nat) (y0 : Nat) (m_tape : Nat) (m_sign : Nat) (m_length : Nat) (m_clause : Nat) (m_clauses : Nat) (m_read : Nat) (m_open : Nat) (m_stack : Nat) (m_word : Nat) (m_said : Nat) (m_goesTo : Nat) (m_hadBy : Nat) (m_wasSaid : Nat) (m_kept : Nat) (m_hasBy : Nat) (m_standsThen : Nat) (m_isFit : Nat) (m_cornerThen : Nat) (m_images : Nat) (m_imageForce : Nat) (m_imageX : Nat) (m_isMade : Nat) (E : mE p s m meth c code #[Value.ref b] 4 RL D K A) (hr : meth.sig.returnType = ret) (hX : va_X b 6 xs s s.heap) (hbl : b < s.heap.size) (hbA : ¬ A b) (hge : ∀ q : Nat, A q → s.heap.size ≤ q) {H : Heap} {locs : List Loc} {ls : Array Slot} (G : mG D A s H locs [(h0, .inr (10, [.ref tp, .ref tr, .ref rr, .ref dr, .ref rs, .int 0, .ref nr, .ref nw, .ref im, .int 0, .ref ac, .ref co, .ref al, .ref ta, .ref ma, .ref ga, .ref og])), (nw, .inr (2, [.ref pl, .ref sa, .ref no, .int (-1), .int 0])), (pl, .inr (8, [.int 0, .int 0, .int 0, .int 0, .ref j0, .ref j1, .ref j2, .ref j3, .ref j4, .ref j5])), (y0, .inr (11, [.ref m_tape, .int 0, .int 0, .ref m_sign, .ref m_length, .ref m_clause, .ref m_clauses, .ref m_read, .int 0, .int 0, .int 0, .int 0, .int 0, .int 0, .int 0, .ref m_open, .int 0, .ref m_stack, .int 0, .ref m_word, .ref m_said, .int (-1), .int 0, .ref m_goesTo, .ref m_hadBy, .ref m_wasSaid, .int 0, .ref m_kept, .ref m_hasBy, .ref m_standsThen, .ref m_isFit, .ref m_cornerThen, .long 0, .ref m_images, .ref m_imageForce, .ref m_imageX, .ref m_isMade])), (m_said, .inl (K 0, 127, .inl (fun _ => 0)))]) (hl : lv_has ls 4 [(3, .int 0), (2, .ref y0), (1, .ref h0), (0, .ref b)]) : W p l e room_1 s m #[Value.ref b] below meth c H locs 600000 7302250 (lw_Z below #[Value.ref b] s) (F0 m 617 ls []) := by
  refine lv_aload_n E.1 E.2.1 dL_law_617 rfl (lv_at hl 2 rfl) ?_
  refine lv_aload_n E.1 E.2.1 dL_law_618 rfl (lv_at hl 3 rfl) ?_
  refine lv_iload_n E.1 E.2.1 dL_law_619 rfl (lv_at hl 0 rfl) ?_
  refine lv_iconst (v := 1) E.1 E.2.1 dL_law_620 (by decide) ?_
  refine lv_iadd E.1 E.2.1 dL_law_621 ?_
  refine m_ci 1 (by decide) ?_
  refine va_sld E.1 E.2.1 hX hbl hbA G.2.2 (by unfold vp_in; decide) dL_law_622 ?_
  refine m_ci (xs 1) rfl ?_
  refine lv_aload_n E.1 E.2.1 dL_law_623 rfl (lv_at hl 3 rfl) ?_
  refine lv_iload_n E.1 E.2.1 dL_law_624 rfl (lv_at hl 0 rfl) ?_
  refine lv_iconst (v := 2) E.1 E.2.1 dL_law_625 (by decide) ?_
  refine lv_iadd E.1 E.2.1 dL_law_626 ?_
  refine m_ci 2 (by decide) ?_
  refine va_sld E.1 E.2.1 hX hbl hbA G.2.2 (by unfold vp_in; decide) dL_law_627 ?_
  refine m_ci (xs 2) rfl ?_
  refine m_vi E G hl (k_had l D K h0 tp tr rr dr rs nr nw im ac co al ta ma ga og pl sa no j0 j1 j2 j3 j4 j5 (xs 1) (xs 2)) (wr := [(y0, .inr (11, [.ref m_tape, .int 0, .int 0, .ref m_sign, .ref m_length, .ref m_clause, .ref m_clauses, .ref m_read, .int 0, .int 0, .int 0, .int 0, .int 0, .int 0, .int 0, .ref m_open, .int 0, .ref m_stack, .int 0, .ref m_word, .ref m_said, .int (-1), .int 0, .ref m_goesTo, .ref m_hadBy, .ref m_wasSaid, .int 0, .ref m_kept, .ref m_hasBy, .ref m_standsThen, .ref m_isFit, .ref m_cornerThen, .long 0, .ref m_images, .ref m_imageForce, .ref m_imageX, .ref m_isMade])), (m_said, .inl (K 0, 127, .inl (fun _ => 0)))]) [0, 1, 2] [3, 4] rfl rfl (by decide) (by decide) (by decide) 0 (ci := 10) rfl rfl rfl 2 rfl mw_code_X10_had mw_ini_10 mw_ml_L_78 mw_inst_X10_had mw_sel_X10_had hd_X10_had ⟨by decide, by decide⟩ rfl (Nat.le_of_ble_eq_true rfl) ⟨by decide, by decide⟩ dL_law_628 (fun r_2 u_1 H locs hp G => ?_)
  have G : mG D A s H locs [(y0, .inr (11, [.ref m_tape, .int 0, .int 0, .ref m_sign, .ref m_length, .ref m_clause, .ref m_clauses, .ref m_read, .int 0, .int 0, .int 0, .int 0, .int 0, .int 0, .int 0, .ref m_open, .int 0, .ref m_stack, .int 0, .ref m_word, .ref m_said, .int (-1), .int 0, .ref m_goesTo, .ref m_hadBy, .ref m_wasSaid, .int 0, .ref m_kept, .ref m_hasBy, .ref m_standsThen, .ref m_isFit, .ref m_cornerThen, .long 0, .ref m_images, .ref m_imageForce, .ref m_imageX, .ref m_isMade])), (m_said, .inl (K 0, 127, .inl (fun _ => 0)))] := G
  subst hp
  refine lv_aload_n E.1 E.2.1 dL_law_631 rfl (lv_at hl 1 rfl) ?_
  refine lv_aload_n E.1 E.2.1 dL_law_632 rfl (lv_at hl 3 rfl) ?_
  refine lv_iload_n E.1 E.2.1 dL_law_633 rfl (lv_at hl 0 rfl) ?_
  refine lv_iconst (v := 1) E.1 E.2.1 dL_law_634 (by decide) ?_
  refine lv_iadd E.1 E.2.1 dL_law_635 ?_
  refine m_ci 1 (by decide) ?_
  refine va_sld E.1 E.2.1 hX hbl hbA G.2.2 (by unfold vp_in; decide) dL_law_636 ?_
  refine m_ci (xs 1) rfl ?_
  refine lv_aload_n E.1 E.2.1 dL_law_637 rfl (lv_at hl 3 rfl) ?_
  refine lv_iload_n E.1 E.2.1 dL_law_638 rfl (lv_at hl 0 rfl) ?_
  refine lv_iconst (v := 2) E.1 E.2.1 dL_law_639 (by decide) ?_
  refine lv_iadd E.1 E.2.1 dL_law_640 ?_
  refine m_ci 2 (by decide) ?_
  refine va_sld E.1 E.2.1 hX hbl hbA G.2.2 (by unfold vp_in; decide) dL_law_641 ?_
  refine m_ci (xs 2) rfl ?_
  refine m_vi E G hl (r_had l D K y0 m_tape m_sign m_length m_clause m_clauses m_read m_open m_stack m_word m_said m_goesTo m_hadBy m_wasSaid m_kept m_hasBy m_standsThen m_isFit m_cornerThen m_images m_imageForce m_imageX m_isMade (xs 1) (xs 2)) (wr := []) [0, 1] [] rfl rfl (by decide) (by decide) (by decide) 0 (ci := 11) rfl rfl rfl 2 rfl mw_code_X11_had mw_ini_11 mw_ml_L_81 mw_inst_X11_had mw_sel_X11_had hd_X11_had ⟨by decide, by decide⟩ rfl (Nat.le_of_ble_eq_true rfl) ⟨by decide, by decide⟩ dL_law_642 (fun r_4 u_3 H locs hp G => ?_)
  have G : mG D A s H locs [] := G
  subst hp
  refine lv_icmp_eq (tgt := 1250) E.1 E.2.1 dL_law_645 (by decide) (fun _ => ?_) (fun h => absurd (by decide) h)
  exact law_tail l E hr hX hbl hbA hge G.2.2 (lv_sub hl [3, 0] rfl)
set_option maxHeartbeats 4000000 in
set_option maxRecDepth 100000 in
theorem law_first {p : Program} {e : Env} {s : State} {m : MethodId} {below : List Frame} {meth : Method} {c : Code} (l : Launch) {b : Nat} {xs : Nat → Int32} {D : va_G} {K : Nat → ClassId} {A : Nat → Prop} (h0 : Nat) (tp : Nat) (tr : Nat) (rr : Nat) (dr : Nat) (rs : Nat) (nr : Nat) (nw : Nat) (im : Nat) (ac : Nat) (co : Nat) (al : Nat) (ta : Nat) (ma : Nat) (ga : Nat) (og : Nat) (pl : Nat) (sa : Nat) (no : Nat) (j0 : Nat) (j1 : Nat) (j2 : Nat) (j3 : Nat) (j4 : Nat) (j5 : Nat) (y0 : Nat) (m_tape : Nat) (m_sign : Nat) (m_length : Nat) (m_clause : Nat) (m_clauses : Nat) (m_read : Nat) (m_open : Nat) (m_stack : Nat) (m_word : Nat) (m_said : Nat) (m_goesTo : Nat) (m_hadBy : Nat) (m_wasSaid : Nat) (m_kept : Nat) (m_hasBy : Nat) (m_standsThen : Nat) (m_isFit : Nat) (m_cornerThen : Nat) (m_images : Nat) (m_imageForce : Nat) (m_imageX : Nat) (m_isMade : Nat) (E : mE p s m meth c code #[Value.ref b] 4 RL D K A) (hr : meth.sig.returnType = ret) (hX : va_X b 6 xs s s.heap) (hbl : b < s.heap.size) (hbA : ¬ A b) (hge : ∀ q : Nat, A q → s.heap.size ≤ q) {H : Heap} {locs : List Loc} {ls : Array Slot} (G : mG D A s H locs [(h0, .inr (10, [.ref tp, .ref tr, .ref rr, .ref dr, .ref rs, .int 0, .ref nr, .ref nw, .ref im, .int 0, .ref ac, .ref co, .ref al, .ref ta, .ref ma, .ref ga, .ref og])), (nw, .inr (2, [.ref pl, .ref sa, .ref no, .int (-1), .int 0])), (pl, .inr (8, [.int 0, .int 0, .int 0, .int 0, .ref j0, .ref j1, .ref j2, .ref j3, .ref j4, .ref j5])), (y0, .inr (11, [.ref m_tape, .int 0, .int 0, .ref m_sign, .ref m_length, .ref m_clause, .ref m_clauses, .ref m_read, .int 0, .int 0, .int 0, .int 0, .int 0, .int 0, .int 0, .ref m_open, .int 0, .ref m_stack, .int 0, .ref m_word, .ref m_said, .int (-1), .int 0, .ref m_goesTo, .ref m_hadBy, .ref m_wasSaid, .int 0, .ref m_kept, .ref m_hasBy, .ref m_standsThen, .ref m_isFit, .ref m_cornerThen, .long 0, .ref m_images, .ref m_imageForce, .ref m_imageX, .ref m_isMade])), (m_said, .inl (K 0, 127, .inl (fun _ => 0)))]) (hl : lv_has ls 4 [(3, .int 0), (2, .ref y0), (1, .ref h0), (0, .ref b)]) : W p l e room_1 s m #[Value.ref b] below meth c H locs 600000 7302250 (lw_Z below #[Value.ref b] s) (F0 m 650 ls []) := by
  refine lv_aload_n E.1 E.2.1 dL_law_650 rfl (lv_at hl 2 rfl) ?_
  refine lv_aload_n E.1 E.2.1 dL_law_651 rfl (lv_at hl 3 rfl) ?_
  refine lv_iload_n E.1 E.2.1 dL_law_652 rfl (lv_at hl 0 rfl) ?_
  refine lv_iconst (v := 1) E.1 E.2.1 dL_law_653 (by decide) ?_
  refine lv_iadd E.1 E.2.1 dL_law_654 ?_
  refine m_ci 1 (by decide) ?_
  refine va_sld E.1 E.2.1 hX hbl hbA G.2.2 (by unfold vp_in; decide) dL_law_655 ?_
  refine m_ci (xs 1) rfl ?_
  refine m_vi E G hl (k_first l D K h0 tp tr rr dr rs nr nw im ac co al ta ma ga og pl sa no j0 j1 j2 j3 j4 j5 (xs 1)) (wr := [(y0, .inr (11, [.ref m_tape, .int 0, .int 0, .ref m_sign, .ref m_length, .ref m_clause, .ref m_clauses, .ref m_read, .int 0, .int 0, .int 0, .int 0, .int 0, .int 0, .int 0, .ref m_open, .int 0, .ref m_stack, .int 0, .ref m_word, .ref m_said, .int (-1), .int 0, .ref m_goesTo, .ref m_hadBy, .ref m_wasSaid, .int 0, .ref m_kept, .ref m_hasBy, .ref m_standsThen, .ref m_isFit, .ref m_cornerThen, .long 0, .ref m_images, .ref m_imageForce, .ref m_imageX, .ref m_isMade])), (m_said, .inl (K 0, 127, .inl (fun _ => 0)))]) [0, 1, 2] [3, 4] rfl rfl (by decide) (by decide) (by decide) 0 (ci := 10) rfl rfl rfl 1 rfl mw_code_X10_first mw_ini_10 mw_ml_L_82 mw_inst_X10_first mw_sel_X10_first hd_X10_first ⟨by decide, by decide⟩ rfl (Nat.le_of_ble_eq_true rfl) ⟨by decide, by decide⟩ dL_law_656 (fun r_2 u_1 H locs hp G => ?_)
  have G : mG D A s H locs [(y0, .inr (11, [.ref m_tape, .int 0, .int 0, .ref m_sign, .ref m_length, .ref m_clause, .ref m_clauses, .ref m_read, .int 0, .int 0, .int 0, .int 0, .int 0, .int 0, .int 0, .ref m_open, .int 0, .ref m_stack, .int 0, .ref m_word, .ref m_said, .int (-1), .int 0, .ref m_goesTo, .ref m_hadBy, .ref m_wasSaid, .int 0, .ref m_kept, .ref m_hasBy, .ref m_standsThen, .ref m_isFit, .ref m_cornerThen, .long 0, .ref m_images, .ref m_imageForce, .ref m_imageX, .ref m_isMade])), (m_said, .inl (K 0, 127, .inl (fun _ => 0)))] := G
  subst hp
  refine lv_aload_n E.1 E.2.1 dL_law_659 rfl (lv_at hl 1 rfl) ?_
  refine lv_aload_n E.1 E.2.1 dL_law_660 rfl (lv_at hl 3 rfl) ?_
  refine lv_iload_n E.1 E.2.1 dL_law_661 rfl (lv_at hl 0 rfl) ?_
  refine lv_iconst (v := 1) E.1 E.2.1 dL_law_662 (by decide) ?_
  refine lv_iadd E.1 E.2.1 dL_law_663 ?_
  refine m_ci 1 (by decide) ?_
  refine va_sld E.1 E.2.1 hX hbl hbA G.2.2 (by unfold vp_in; decide) dL_law_664 ?_
  refine m_ci (xs 1) rfl ?_
  refine m_vi E G hl (r_first l D K y0 m_tape m_sign m_length m_clause m_clauses m_read m_open m_stack m_word m_said m_goesTo m_hadBy m_wasSaid m_kept m_hasBy m_standsThen m_isFit m_cornerThen m_images m_imageForce m_imageX m_isMade (xs 1)) (wr := []) [0, 1] [] rfl rfl (by decide) (by decide) (by decide) 0 (ci := 11) rfl rfl rfl 1 rfl mw_code_X11_first mw_ini_11 mw_ml_L_85 mw_inst_X11_first mw_sel_X11_first hd_X11_first ⟨by decide, by decide⟩ rfl (Nat.le_of_ble_eq_true rfl) ⟨by decide, by decide⟩ dL_law_665 (fun r_4 u_3 H locs hp G => ?_)
  have G : mG D A s H locs [] := G
  subst hp
  refine lv_icmp_eq (tgt := 1250) E.1 E.2.1 dL_law_668 (by decide) (fun _ => ?_) (fun h => absurd (by decide) h)
  exact law_tail l E hr hX hbl hbA hge G.2.2 (lv_sub hl [3, 0] rfl)
set_option maxHeartbeats 4000000 in
set_option maxRecDepth 100000 in
theorem law_far {p : Program} {e : Env} {s : State} {m : MethodId} {below : List Frame} {meth : Method} {c : Code} (l : Launch) {b : Nat} {xs : Nat → Int32} {D : va_G} {K : Nat → ClassId} {A : Nat → Prop} (h0 : Nat) (tp : Nat) (tr : Nat) (rr : Nat) (dr : Nat) (rs : Nat) (nr : Nat) (nw : Nat) (im : Nat) (ac : Nat) (co : Nat) (al : Nat) (ta : Nat) (ma : Nat) (ga : Nat) (og : Nat) (pl : Nat) (sa : Nat) (no : Nat) (j0 : Nat) (j1 : Nat) (j2 : Nat) (j3 : Nat) (j4 : Nat) (j5 : Nat) (y0 : Nat) (m_tape : Nat) (m_sign : Nat) (m_length : Nat) (m_clause : Nat) (m_clauses : Nat) (m_read : Nat) (m_open : Nat) (m_stack : Nat) (m_word : Nat) (m_said : Nat) (m_goesTo : Nat) (m_hadBy : Nat) (m_wasSaid : Nat) (m_kept : Nat) (m_hasBy : Nat) (m_standsThen : Nat) (m_isFit : Nat) (m_cornerThen : Nat) (m_images : Nat) (m_imageForce : Nat) (m_imageX : Nat) (m_isMade : Nat) (E : mE p s m meth c code #[Value.ref b] 4 RL D K A) (hr : meth.sig.returnType = ret) (hX : va_X b 6 xs s s.heap) (hbl : b < s.heap.size) (hbA : ¬ A b) (hge : ∀ q : Nat, A q → s.heap.size ≤ q) {H : Heap} {locs : List Loc} {ls : Array Slot} (G : mG D A s H locs [(h0, .inr (10, [.ref tp, .ref tr, .ref rr, .ref dr, .ref rs, .int 0, .ref nr, .ref nw, .ref im, .int 0, .ref ac, .ref co, .ref al, .ref ta, .ref ma, .ref ga, .ref og])), (nw, .inr (2, [.ref pl, .ref sa, .ref no, .int (-1), .int 0])), (pl, .inr (8, [.int 0, .int 0, .int 0, .int 0, .ref j0, .ref j1, .ref j2, .ref j3, .ref j4, .ref j5])), (y0, .inr (11, [.ref m_tape, .int 0, .int 0, .ref m_sign, .ref m_length, .ref m_clause, .ref m_clauses, .ref m_read, .int 0, .int 0, .int 0, .int 0, .int 0, .int 0, .int 0, .ref m_open, .int 0, .ref m_stack, .int 0, .ref m_word, .ref m_said, .int (-1), .int 0, .ref m_goesTo, .ref m_hadBy, .ref m_wasSaid, .int 0, .ref m_kept, .ref m_hasBy, .ref m_standsThen, .ref m_isFit, .ref m_cornerThen, .long 0, .ref m_images, .ref m_imageForce, .ref m_imageX, .ref m_isMade])), (m_said, .inl (K 0, 127, .inl (fun _ => 0)))]) (hl : lv_has ls 4 [(3, .int 0), (2, .ref y0), (1, .ref h0), (0, .ref b)]) : W p l e room_1 s m #[Value.ref b] below meth c H locs 600000 7302250 (lw_Z below #[Value.ref b] s) (F0 m 673 ls []) := by
  refine lv_aload_n E.1 E.2.1 dL_law_673 rfl (lv_at hl 2 rfl) ?_
  refine lv_aload_n E.1 E.2.1 dL_law_674 rfl (lv_at hl 3 rfl) ?_
  refine lv_iload_n E.1 E.2.1 dL_law_675 rfl (lv_at hl 0 rfl) ?_
  refine lv_iconst (v := 1) E.1 E.2.1 dL_law_676 (by decide) ?_
  refine lv_iadd E.1 E.2.1 dL_law_677 ?_
  refine m_ci 1 (by decide) ?_
  refine va_sld E.1 E.2.1 hX hbl hbA G.2.2 (by unfold vp_in; decide) dL_law_678 ?_
  refine m_ci (xs 1) rfl ?_
  refine m_vi E G hl (k_far l D K h0 tp tr rr dr rs nr nw im ac co al ta ma ga og pl sa no j0 j1 j2 j3 j4 j5 (xs 1)) (wr := [(y0, .inr (11, [.ref m_tape, .int 0, .int 0, .ref m_sign, .ref m_length, .ref m_clause, .ref m_clauses, .ref m_read, .int 0, .int 0, .int 0, .int 0, .int 0, .int 0, .int 0, .ref m_open, .int 0, .ref m_stack, .int 0, .ref m_word, .ref m_said, .int (-1), .int 0, .ref m_goesTo, .ref m_hadBy, .ref m_wasSaid, .int 0, .ref m_kept, .ref m_hasBy, .ref m_standsThen, .ref m_isFit, .ref m_cornerThen, .long 0, .ref m_images, .ref m_imageForce, .ref m_imageX, .ref m_isMade])), (m_said, .inl (K 0, 127, .inl (fun _ => 0)))]) [0, 1, 2] [3, 4] rfl rfl (by decide) (by decide) (by decide) 0 (ci := 10) rfl rfl rfl 1 rfl mw_code_X10_far mw_ini_10 mw_ml_L_86 mw_inst_X10_far mw_sel_X10_far hd_X10_far ⟨by decide, by decide⟩ rfl (Nat.le_of_ble_eq_true rfl) ⟨by decide, by decide⟩ dL_law_679 (fun r_2 u_1 H locs hp G => ?_)
  have G : mG D A s H locs [(y0, .inr (11, [.ref m_tape, .int 0, .int 0, .ref m_sign, .ref m_length, .ref m_clause, .ref m_clauses, .ref m_read, .int 0, .int 0, .int 0, .int 0, .int 0, .int 0, .int 0, .ref m_open, .int 0, .ref m_stack, .int 0, .ref m_word, .ref m_said, .int (-1), .int 0, .ref m_goesTo, .ref m_hadBy, .ref m_wasSaid, .int 0, .ref m_kept, .ref m_hasBy, .ref m_standsThen, .ref m_isFit, .ref m_cornerThen, .long 0, .ref m_images, .ref m_imageForce, .ref m_imageX, .ref m_isMade])), (m_said, .inl (K 0, 127, .inl (fun _ => 0)))] := G
  subst hp
  refine lv_aload_n E.1 E.2.1 dL_law_682 rfl (lv_at hl 1 rfl) ?_
  refine lv_aload_n E.1 E.2.1 dL_law_683 rfl (lv_at hl 3 rfl) ?_
  refine lv_iload_n E.1 E.2.1 dL_law_684 rfl (lv_at hl 0 rfl) ?_
  refine lv_iconst (v := 1) E.1 E.2.1 dL_law_685 (by decide) ?_
  refine lv_iadd E.1 E.2.1 dL_law_686 ?_
  refine m_ci 1 (by decide) ?_
  refine va_sld E.1 E.2.1 hX hbl hbA G.2.2 (by unfold vp_in; decide) dL_law_687 ?_
  refine m_ci (xs 1) rfl ?_
  refine m_vi E G hl (r_far l D K y0 m_tape m_sign m_length m_clause m_clauses m_read m_open m_stack m_word m_said m_goesTo m_hadBy m_wasSaid m_kept m_hasBy m_standsThen m_isFit m_cornerThen m_images m_imageForce m_imageX m_isMade (xs 1)) (wr := []) [0, 1] [] rfl rfl (by decide) (by decide) (by decide) 0 (ci := 11) rfl rfl rfl 1 rfl mw_code_X11_far mw_ini_11 mw_ml_L_89 mw_inst_X11_far mw_sel_X11_far hd_X11_far ⟨by decide, by decide⟩ rfl (Nat.le_of_ble_eq_true rfl) ⟨by decide, by decide⟩ dL_law_688 (fun r_4 u_3 H locs hp G => ?_)
  have G : mG D A s H locs [] := G
  subst hp
  refine lv_icmp_eq (tgt := 1250) E.1 E.2.1 dL_law_691 (by decide) (fun _ => ?_) (fun h => absurd (by decide) h)
  exact law_tail l E hr hX hbl hbA hge G.2.2 (lv_sub hl [3, 0] rfl)
set_option maxHeartbeats 4000000 in
set_option maxRecDepth 100000 in
theorem law_safe {p : Program} {e : Env} {s : State} {m : MethodId} {below : List Frame} {meth : Method} {c : Code} (l : Launch) {b : Nat} {xs : Nat → Int32} {D : va_G} {K : Nat → ClassId} {A : Nat → Prop} (h0 : Nat) (tp : Nat) (tr : Nat) (rr : Nat) (dr : Nat) (rs : Nat) (nr : Nat) (nw : Nat) (im : Nat) (ac : Nat) (co : Nat) (al : Nat) (ta : Nat) (ma : Nat) (ga : Nat) (og : Nat) (pl : Nat) (sa : Nat) (no : Nat) (j0 : Nat) (j1 : Nat) (j2 : Nat) (j3 : Nat) (j4 : Nat) (j5 : Nat) (y0 : Nat) (m_tape : Nat) (m_sign : Nat) (m_length : Nat) (m_clause : Nat) (m_clauses : Nat) (m_read : Nat) (m_open : Nat) (m_stack : Nat) (m_word : Nat) (m_said : Nat) (m_goesTo : Nat) (m_hadBy : Nat) (m_wasSaid : Nat) (m_kept : Nat) (m_hasBy : Nat) (m_standsThen : Nat) (m_isFit : Nat) (m_cornerThen : Nat) (m_images : Nat) (m_imageForce : Nat) (m_imageX : Nat) (m_isMade : Nat) (E : mE p s m meth c code #[Value.ref b] 4 RL D K A) (hr : meth.sig.returnType = ret) (hX : va_X b 6 xs s s.heap) (hbl : b < s.heap.size) (hbA : ¬ A b) (hge : ∀ q : Nat, A q → s.heap.size ≤ q) {H : Heap} {locs : List Loc} {ls : Array Slot} (G : mG D A s H locs [(h0, .inr (10, [.ref tp, .ref tr, .ref rr, .ref dr, .ref rs, .int 0, .ref nr, .ref nw, .ref im, .int 0, .ref ac, .ref co, .ref al, .ref ta, .ref ma, .ref ga, .ref og])), (nw, .inr (2, [.ref pl, .ref sa, .ref no, .int (-1), .int 0])), (pl, .inr (8, [.int 0, .int 0, .int 0, .int 0, .ref j0, .ref j1, .ref j2, .ref j3, .ref j4, .ref j5])), (y0, .inr (11, [.ref m_tape, .int 0, .int 0, .ref m_sign, .ref m_length, .ref m_clause, .ref m_clauses, .ref m_read, .int 0, .int 0, .int 0, .int 0, .int 0, .int 0, .int 0, .ref m_open, .int 0, .ref m_stack, .int 0, .ref m_word, .ref m_said, .int (-1), .int 0, .ref m_goesTo, .ref m_hadBy, .ref m_wasSaid, .int 0, .ref m_kept, .ref m_hasBy, .ref m_standsThen, .ref m_isFit, .ref m_cornerThen, .long 0, .ref m_images, .ref m_imageForce, .ref m_imageX, .ref m_isMade])), (m_said, .inl (K 0, 127, .inl (fun _ => 0)))]) (hl : lv_has ls 4 [(3, .int 0), (2, .ref y0), (1, .ref h0), (0, .ref b)]) : W p l e room_1 s m #[Value.ref b] below meth c H locs 600000 7302250 (lw_Z below #[Value.ref b] s) (F0 m 696 ls []) := by
  refine lv_aload_n E.1 E.2.1 dL_law_696 rfl (lv_at hl 2 rfl) ?_
  refine lv_aload_n E.1 E.2.1 dL_law_697 rfl (lv_at hl 3 rfl) ?_
  refine lv_iload_n E.1 E.2.1 dL_law_698 rfl (lv_at hl 0 rfl) ?_
  refine lv_iconst (v := 1) E.1 E.2.1 dL_law_699 (by decide) ?_
  refine lv_iadd E.1 E.2.1 dL_law_700 ?_
  refine m_ci 1 (by decide) ?_
  refine va_sld E.1 E.2.1 hX hbl hbA G.2.2 (by unfold vp_in; decide) dL_law_701 ?_
  refine m_ci (xs 1) rfl ?_
  refine m_vi E G hl (k_safe l D K h0 tp tr rr dr rs nr nw im ac co al ta ma ga og pl sa no j0 j1 j2 j3 j4 j5 (xs 1)) (wr := [(y0, .inr (11, [.ref m_tape, .int 0, .int 0, .ref m_sign, .ref m_length, .ref m_clause, .ref m_clauses, .ref m_read, .int 0, .int 0, .int 0, .int 0, .int 0, .int 0, .int 0, .ref m_open, .int 0, .ref m_stack, .int 0, .ref m_word, .ref m_said, .int (-1), .int 0, .ref m_goesTo, .ref m_hadBy, .ref m_wasSaid, .int 0, .ref m_kept, .ref m_hasBy, .ref m_standsThen, .ref m_isFit, .ref m_cornerThen, .long 0, .ref m_images, .ref m_imageForce, .ref m_imageX, .ref m_isMade])), (m_said, .inl (K 0, 127, .inl (fun _ => 0)))]) [0, 1, 2] [3, 4] rfl rfl (by decide) (by decide) (by decide) 0 (ci := 10) rfl rfl rfl 1 rfl mw_code_X10_safe mw_ini_10 mw_ml_L_90 mw_inst_X10_safe mw_sel_X10_safe hd_X10_safe ⟨by decide, by decide⟩ rfl (Nat.le_of_ble_eq_true rfl) ⟨by decide, by decide⟩ dL_law_702 (fun r_2 u_1 H locs hp G => ?_)
  have G : mG D A s H locs [(y0, .inr (11, [.ref m_tape, .int 0, .int 0, .ref m_sign, .ref m_length, .ref m_clause, .ref m_clauses, .ref m_read, .int 0, .int 0, .int 0, .int 0, .int 0, .int 0, .int 0, .ref m_open, .int 0, .ref m_stack, .int 0, .ref m_word, .ref m_said, .int (-1), .int 0, .ref m_goesTo, .ref m_hadBy, .ref m_wasSaid, .int 0, .ref m_kept, .ref m_hasBy, .ref m_standsThen, .ref m_isFit, .ref m_cornerThen, .long 0, .ref m_images, .ref m_imageForce, .ref m_imageX, .ref m_isMade])), (m_said, .inl (K 0, 127, .inl (fun _ => 0)))] := G
  subst hp
  refine lv_aload_n E.1 E.2.1 dL_law_705 rfl (lv_at hl 1 rfl) ?_
  refine lv_aload_n E.1 E.2.1 dL_law_706 rfl (lv_at hl 3 rfl) ?_
  refine lv_iload_n E.1 E.2.1 dL_law_707 rfl (lv_at hl 0 rfl) ?_
  refine lv_iconst (v := 1) E.1 E.2.1 dL_law_708 (by decide) ?_
  refine lv_iadd E.1 E.2.1 dL_law_709 ?_
  refine m_ci 1 (by decide) ?_
  refine va_sld E.1 E.2.1 hX hbl hbA G.2.2 (by unfold vp_in; decide) dL_law_710 ?_
  refine m_ci (xs 1) rfl ?_
  refine m_vi E G hl (r_safe l D K y0 m_tape m_sign m_length m_clause m_clauses m_read m_open m_stack m_word m_said m_goesTo m_hadBy m_wasSaid m_kept m_hasBy m_standsThen m_isFit m_cornerThen m_images m_imageForce m_imageX m_isMade (xs 1)) (wr := []) [0, 1] [] rfl rfl (by decide) (by decide) (by decide) 0 (ci := 11) rfl rfl rfl 1 rfl mw_code_X11_safe mw_ini_11 mw_ml_L_93 mw_inst_X11_safe mw_sel_X11_safe hd_X11_safe ⟨by decide, by decide⟩ rfl (Nat.le_of_ble_eq_true rfl) ⟨by decide, by decide⟩ dL_law_711 (fun r_4 u_3 H locs hp G => ?_)
  have G : mG D A s H locs [] := G
  subst hp
  refine lv_icmp_eq (tgt := 1250) E.1 E.2.1 dL_law_714 (by decide) (fun _ => ?_) (fun h => absurd (by decide) h)
  exact law_tail l E hr hX hbl hbA hge G.2.2 (lv_sub hl [3, 0] rfl)
set_option maxHeartbeats 4000000 in
set_option maxRecDepth 100000 in
theorem law_stuck {p : Program} {e : Env} {s : State} {m : MethodId} {below : List Frame} {meth : Method} {c : Code} (l : Launch) {b : Nat} {xs : Nat → Int32} {D : va_G} {K : Nat → ClassId} {A : Nat → Prop} (h0 : Nat) (tp : Nat) (tr : Nat) (rr : Nat) (dr : Nat) (rs : Nat) (nr : Nat) (nw : Nat) (im : Nat) (ac : Nat) (co : Nat) (al : Nat) (ta : Nat) (ma : Nat) (ga : Nat) (og : Nat) (pl : Nat) (sa : Nat) (no : Nat) (j0 : Nat) (j1 : Nat) (j2 : Nat) (j3 : Nat) (j4 : Nat) (j5 : Nat) (y0 : Nat) (m_tape : Nat) (m_sign : Nat) (m_length : Nat) (m_clause : Nat) (m_clauses : Nat) (m_read : Nat) (m_open : Nat) (m_stack : Nat) (m_word : Nat) (m_said : Nat) (m_goesTo : Nat) (m_hadBy : Nat) (m_wasSaid : Nat) (m_kept : Nat) (m_hasBy : Nat) (m_standsThen : Nat) (m_isFit : Nat) (m_cornerThen : Nat) (m_images : Nat) (m_imageForce : Nat) (m_imageX : Nat) (m_isMade : Nat) (E : mE p s m meth c code #[Value.ref b] 4 RL D K A) (hr : meth.sig.returnType = ret) (hX : va_X b 6 xs s s.heap) (hbl : b < s.heap.size) (hbA : ¬ A b) (hge : ∀ q : Nat, A q → s.heap.size ≤ q) {H : Heap} {locs : List Loc} {ls : Array Slot} (G : mG D A s H locs [(h0, .inr (10, [.ref tp, .ref tr, .ref rr, .ref dr, .ref rs, .int 0, .ref nr, .ref nw, .ref im, .int 0, .ref ac, .ref co, .ref al, .ref ta, .ref ma, .ref ga, .ref og])), (nw, .inr (2, [.ref pl, .ref sa, .ref no, .int (-1), .int 0])), (pl, .inr (8, [.int 0, .int 0, .int 0, .int 0, .ref j0, .ref j1, .ref j2, .ref j3, .ref j4, .ref j5])), (y0, .inr (11, [.ref m_tape, .int 0, .int 0, .ref m_sign, .ref m_length, .ref m_clause, .ref m_clauses, .ref m_read, .int 0, .int 0, .int 0, .int 0, .int 0, .int 0, .int 0, .ref m_open, .int 0, .ref m_stack, .int 0, .ref m_word, .ref m_said, .int (-1), .int 0, .ref m_goesTo, .ref m_hadBy, .ref m_wasSaid, .int 0, .ref m_kept, .ref m_hasBy, .ref m_standsThen, .ref m_isFit, .ref m_cornerThen, .long 0, .ref m_images, .ref m_imageForce, .ref m_imageX, .ref m_isMade])), (m_said, .inl (K 0, 127, .inl (fun _ => 0)))]) (hl : lv_has ls 4 [(3, .int 0), (2, .ref y0), (1, .ref h0), (0, .ref b)]) : W p l e room_1 s m #[Value.ref b] below meth c H locs 600000 7302250 (lw_Z below #[Value.ref b] s) (F0 m 719 ls []) := by
  refine lv_aload_n E.1 E.2.1 dL_law_719 rfl (lv_at hl 2 rfl) ?_
  refine lv_aload_n E.1 E.2.1 dL_law_720 rfl (lv_at hl 3 rfl) ?_
  refine lv_iload_n E.1 E.2.1 dL_law_721 rfl (lv_at hl 0 rfl) ?_
  refine lv_iconst (v := 1) E.1 E.2.1 dL_law_722 (by decide) ?_
  refine lv_iadd E.1 E.2.1 dL_law_723 ?_
  refine m_ci 1 (by decide) ?_
  refine va_sld E.1 E.2.1 hX hbl hbA G.2.2 (by unfold vp_in; decide) dL_law_724 ?_
  refine m_ci (xs 1) rfl ?_
  refine m_vi E G hl (k_stuck l D K h0 tp tr rr dr rs nr nw im ac co al ta ma ga og pl sa no j0 j1 j2 j3 j4 j5 (xs 1)) (wr := [(y0, .inr (11, [.ref m_tape, .int 0, .int 0, .ref m_sign, .ref m_length, .ref m_clause, .ref m_clauses, .ref m_read, .int 0, .int 0, .int 0, .int 0, .int 0, .int 0, .int 0, .ref m_open, .int 0, .ref m_stack, .int 0, .ref m_word, .ref m_said, .int (-1), .int 0, .ref m_goesTo, .ref m_hadBy, .ref m_wasSaid, .int 0, .ref m_kept, .ref m_hasBy, .ref m_standsThen, .ref m_isFit, .ref m_cornerThen, .long 0, .ref m_images, .ref m_imageForce, .ref m_imageX, .ref m_isMade])), (m_said, .inl (K 0, 127, .inl (fun _ => 0)))]) [0, 1, 2] [3, 4] rfl rfl (by decide) (by decide) (by decide) 0 (ci := 10) rfl rfl rfl 1 rfl mw_code_X10_stuck mw_ini_10 mw_ml_L_94 mw_inst_X10_stuck mw_sel_X10_stuck hd_X10_stuck ⟨by decide, by decide⟩ rfl (Nat.le_of_ble_eq_true rfl) ⟨by decide, by decide⟩ dL_law_725 (fun r_2 u_1 H locs hp G => ?_)
  have G : mG D A s H locs [(y0, .inr (11, [.ref m_tape, .int 0, .int 0, .ref m_sign, .ref m_length, .ref m_clause, .ref m_clauses, .ref m_read, .int 0, .int 0, .int 0, .int 0, .int 0, .int 0, .int 0, .ref m_open, .int 0, .ref m_stack, .int 0, .ref m_word, .ref m_said, .int (-1), .int 0, .ref m_goesTo, .ref m_hadBy, .ref m_wasSaid, .int 0, .ref m_kept, .ref m_hasBy, .ref m_standsThen, .ref m_isFit, .ref m_cornerThen, .long 0, .ref m_images, .ref m_imageForce, .ref m_imageX, .ref m_isMade])), (m_said, .inl (K 0, 127, .inl (fun _ => 0)))] := G
  subst hp
  refine lv_aload_n E.1 E.2.1 dL_law_728 rfl (lv_at hl 1 rfl) ?_
  refine lv_aload_n E.1 E.2.1 dL_law_729 rfl (lv_at hl 3 rfl) ?_
  refine lv_iload_n E.1 E.2.1 dL_law_730 rfl (lv_at hl 0 rfl) ?_
  refine lv_iconst (v := 1) E.1 E.2.1 dL_law_731 (by decide) ?_
  refine lv_iadd E.1 E.2.1 dL_law_732 ?_
  refine m_ci 1 (by decide) ?_
  refine va_sld E.1 E.2.1 hX hbl hbA G.2.2 (by unfold vp_in; decide) dL_law_733 ?_
  refine m_ci (xs 1) rfl ?_
  refine m_vi E G hl (r_stuck l D K y0 m_tape m_sign m_length m_clause m_clauses m_read m_open m_stack m_word m_said m_goesTo m_hadBy m_wasSaid m_kept m_hasBy m_standsThen m_isFit m_cornerThen m_images m_imageForce m_imageX m_isMade (xs 1)) (wr := []) [0, 1] [] rfl rfl (by decide) (by decide) (by decide) 0 (ci := 11) rfl rfl rfl 1 rfl mw_code_X11_stuck mw_ini_11 mw_ml_L_97 mw_inst_X11_stuck mw_sel_X11_stuck hd_X11_stuck ⟨by decide, by decide⟩ rfl (Nat.le_of_ble_eq_true rfl) ⟨by decide, by decide⟩ dL_law_734 (fun r_4 u_3 H locs hp G => ?_)
  have G : mG D A s H locs [] := G
  subst hp
  refine lv_icmp_eq (tgt := 1250) E.1 E.2.1 dL_law_737 (by decide) (fun _ => ?_) (fun h => absurd (by decide) h)
  exact law_tail l E hr hX hbl hbA hge G.2.2 (lv_sub hl [3, 0] rfl)
set_option maxHeartbeats 4000000 in
set_option maxRecDepth 100000 in
theorem law_best {p : Program} {e : Env} {s : State} {m : MethodId} {below : List Frame} {meth : Method} {c : Code} (l : Launch) {b : Nat} {xs : Nat → Int32} {D : va_G} {K : Nat → ClassId} {A : Nat → Prop} (h0 : Nat) (tp : Nat) (tr : Nat) (rr : Nat) (dr : Nat) (rs : Nat) (nr : Nat) (nw : Nat) (im : Nat) (ac : Nat) (co : Nat) (al : Nat) (ta : Nat) (ma : Nat) (ga : Nat) (og : Nat) (pl : Nat) (sa : Nat) (no : Nat) (j0 : Nat) (j1 : Nat) (j2 : Nat) (j3 : Nat) (j4 : Nat) (j5 : Nat) (y0 : Nat) (m_tape : Nat) (m_sign : Nat) (m_length : Nat) (m_clause : Nat) (m_clauses : Nat) (m_read : Nat) (m_open : Nat) (m_stack : Nat) (m_word : Nat) (m_said : Nat) (m_goesTo : Nat) (m_hadBy : Nat) (m_wasSaid : Nat) (m_kept : Nat) (m_hasBy : Nat) (m_standsThen : Nat) (m_isFit : Nat) (m_cornerThen : Nat) (m_images : Nat) (m_imageForce : Nat) (m_imageX : Nat) (m_isMade : Nat) (E : mE p s m meth c code #[Value.ref b] 4 RL D K A) (hr : meth.sig.returnType = ret) (hX : va_X b 6 xs s s.heap) (hbl : b < s.heap.size) (hbA : ¬ A b) (hge : ∀ q : Nat, A q → s.heap.size ≤ q) {H : Heap} {locs : List Loc} {ls : Array Slot} (G : mG D A s H locs [(h0, .inr (10, [.ref tp, .ref tr, .ref rr, .ref dr, .ref rs, .int 0, .ref nr, .ref nw, .ref im, .int 0, .ref ac, .ref co, .ref al, .ref ta, .ref ma, .ref ga, .ref og])), (nw, .inr (2, [.ref pl, .ref sa, .ref no, .int (-1), .int 0])), (pl, .inr (8, [.int 0, .int 0, .int 0, .int 0, .ref j0, .ref j1, .ref j2, .ref j3, .ref j4, .ref j5])), (y0, .inr (11, [.ref m_tape, .int 0, .int 0, .ref m_sign, .ref m_length, .ref m_clause, .ref m_clauses, .ref m_read, .int 0, .int 0, .int 0, .int 0, .int 0, .int 0, .int 0, .ref m_open, .int 0, .ref m_stack, .int 0, .ref m_word, .ref m_said, .int (-1), .int 0, .ref m_goesTo, .ref m_hadBy, .ref m_wasSaid, .int 0, .ref m_kept, .ref m_hasBy, .ref m_standsThen, .ref m_isFit, .ref m_cornerThen, .long 0, .ref m_images, .ref m_imageForce, .ref m_imageX, .ref m_isMade])), (m_said, .inl (K 0, 127, .inl (fun _ => 0)))]) (hl : lv_has ls 4 [(3, .int 0), (2, .ref y0), (1, .ref h0), (0, .ref b)]) : W p l e room_1 s m #[Value.ref b] below meth c H locs 600000 7302250 (lw_Z below #[Value.ref b] s) (F0 m 742 ls []) := by
  refine lv_aload_n E.1 E.2.1 dL_law_742 rfl (lv_at hl 2 rfl) ?_
  refine lv_aload_n E.1 E.2.1 dL_law_743 rfl (lv_at hl 3 rfl) ?_
  refine lv_iload_n E.1 E.2.1 dL_law_744 rfl (lv_at hl 0 rfl) ?_
  refine lv_iconst (v := 1) E.1 E.2.1 dL_law_745 (by decide) ?_
  refine lv_iadd E.1 E.2.1 dL_law_746 ?_
  refine m_ci 1 (by decide) ?_
  refine va_sld E.1 E.2.1 hX hbl hbA G.2.2 (by unfold vp_in; decide) dL_law_747 ?_
  refine m_ci (xs 1) rfl ?_
  refine lv_aload_n E.1 E.2.1 dL_law_748 rfl (lv_at hl 3 rfl) ?_
  refine lv_iload_n E.1 E.2.1 dL_law_749 rfl (lv_at hl 0 rfl) ?_
  refine lv_iconst (v := 2) E.1 E.2.1 dL_law_750 (by decide) ?_
  refine lv_iadd E.1 E.2.1 dL_law_751 ?_
  refine m_ci 2 (by decide) ?_
  refine va_sld E.1 E.2.1 hX hbl hbA G.2.2 (by unfold vp_in; decide) dL_law_752 ?_
  refine m_ci (xs 2) rfl ?_
  refine lv_aload_n E.1 E.2.1 dL_law_753 rfl (lv_at hl 3 rfl) ?_
  refine lv_iload_n E.1 E.2.1 dL_law_754 rfl (lv_at hl 0 rfl) ?_
  refine lv_iconst (v := 3) E.1 E.2.1 dL_law_755 (by decide) ?_
  refine lv_iadd E.1 E.2.1 dL_law_756 ?_
  refine m_ci 3 (by decide) ?_
  refine va_sld E.1 E.2.1 hX hbl hbA G.2.2 (by unfold vp_in; decide) dL_law_757 ?_
  refine m_ci (xs 3) rfl ?_
  refine m_vi E G hl (k_best l D K h0 tp tr rr dr rs nr nw im ac co al ta ma ga og pl sa no j0 j1 j2 j3 j4 j5 (xs 1) (xs 2) (xs 3)) (wr := [(y0, .inr (11, [.ref m_tape, .int 0, .int 0, .ref m_sign, .ref m_length, .ref m_clause, .ref m_clauses, .ref m_read, .int 0, .int 0, .int 0, .int 0, .int 0, .int 0, .int 0, .ref m_open, .int 0, .ref m_stack, .int 0, .ref m_word, .ref m_said, .int (-1), .int 0, .ref m_goesTo, .ref m_hadBy, .ref m_wasSaid, .int 0, .ref m_kept, .ref m_hasBy, .ref m_standsThen, .ref m_isFit, .ref m_cornerThen, .long 0, .ref m_images, .ref m_imageForce, .ref m_imageX, .ref m_isMade])), (m_said, .inl (K 0, 127, .inl (fun _ => 0)))]) [0, 1, 2] [3, 4] rfl rfl (by decide) (by decide) (by decide) 0 (ci := 10) rfl rfl rfl 3 rfl mw_code_X10_best mw_ini_10 mw_ml_L_98 mw_inst_X10_best mw_sel_X10_best hd_X10_best ⟨by decide, by decide⟩ rfl (Nat.le_of_ble_eq_true rfl) ⟨by decide, by decide⟩ dL_law_758 (fun r_2 u_1 H locs hp G => ?_)
  have G : mG D A s H locs [(y0, .inr (11, [.ref m_tape, .int 0, .int 0, .ref m_sign, .ref m_length, .ref m_clause, .ref m_clauses, .ref m_read, .int 0, .int 0, .int 0, .int 0, .int 0, .int 0, .int 0, .ref m_open, .int 0, .ref m_stack, .int 0, .ref m_word, .ref m_said, .int (-1), .int 0, .ref m_goesTo, .ref m_hadBy, .ref m_wasSaid, .int 0, .ref m_kept, .ref m_hasBy, .ref m_standsThen, .ref m_isFit, .ref m_cornerThen, .long 0, .ref m_images, .ref m_imageForce, .ref m_imageX, .ref m_isMade])), (m_said, .inl (K 0, 127, .inl (fun _ => 0)))] := G
  subst hp
  refine lv_aload_n E.1 E.2.1 dL_law_761 rfl (lv_at hl 1 rfl) ?_
  refine lv_aload_n E.1 E.2.1 dL_law_762 rfl (lv_at hl 3 rfl) ?_
  refine lv_iload_n E.1 E.2.1 dL_law_763 rfl (lv_at hl 0 rfl) ?_
  refine lv_iconst (v := 1) E.1 E.2.1 dL_law_764 (by decide) ?_
  refine lv_iadd E.1 E.2.1 dL_law_765 ?_
  refine m_ci 1 (by decide) ?_
  refine va_sld E.1 E.2.1 hX hbl hbA G.2.2 (by unfold vp_in; decide) dL_law_766 ?_
  refine m_ci (xs 1) rfl ?_
  refine lv_aload_n E.1 E.2.1 dL_law_767 rfl (lv_at hl 3 rfl) ?_
  refine lv_iload_n E.1 E.2.1 dL_law_768 rfl (lv_at hl 0 rfl) ?_
  refine lv_iconst (v := 2) E.1 E.2.1 dL_law_769 (by decide) ?_
  refine lv_iadd E.1 E.2.1 dL_law_770 ?_
  refine m_ci 2 (by decide) ?_
  refine va_sld E.1 E.2.1 hX hbl hbA G.2.2 (by unfold vp_in; decide) dL_law_771 ?_
  refine m_ci (xs 2) rfl ?_
  refine lv_aload_n E.1 E.2.1 dL_law_772 rfl (lv_at hl 3 rfl) ?_
  refine lv_iload_n E.1 E.2.1 dL_law_773 rfl (lv_at hl 0 rfl) ?_
  refine lv_iconst (v := 3) E.1 E.2.1 dL_law_774 (by decide) ?_
  refine lv_iadd E.1 E.2.1 dL_law_775 ?_
  refine m_ci 3 (by decide) ?_
  refine va_sld E.1 E.2.1 hX hbl hbA G.2.2 (by unfold vp_in; decide) dL_law_776 ?_
  refine m_ci (xs 3) rfl ?_
  refine m_vi E G hl (r_best l D K y0 m_tape m_sign m_length m_clause m_clauses m_read m_open m_stack m_word m_said m_goesTo m_hadBy m_wasSaid m_kept m_hasBy m_standsThen m_isFit m_cornerThen m_images m_imageForce m_imageX m_isMade (xs 1) (xs 2) (xs 3)) (wr := []) [0, 1] [] rfl rfl (by decide) (by decide) (by decide) 0 (ci := 11) rfl rfl rfl 3 rfl mw_code_X11_best mw_ini_11 mw_ml_L_101 mw_inst_X11_best mw_sel_X11_best hd_X11_best ⟨by decide, by decide⟩ rfl (Nat.le_of_ble_eq_true rfl) ⟨by decide, by decide⟩ dL_law_777 (fun r_4 u_3 H locs hp G => ?_)
  have G : mG D A s H locs [] := G
  subst hp
  refine lv_icmp_eq (tgt := 1250) E.1 E.2.1 dL_law_780 (by decide) (fun _ => ?_) (fun h => absurd (by decide) h)
  exact law_tail l E hr hX hbl hbA hge G.2.2 (lv_sub hl [3, 0] rfl)
set_option maxHeartbeats 4000000 in
set_option maxRecDepth 100000 in
theorem law_kind {p : Program} {e : Env} {s : State} {m : MethodId} {below : List Frame} {meth : Method} {c : Code} (l : Launch) {b : Nat} {xs : Nat → Int32} {D : va_G} {K : Nat → ClassId} {A : Nat → Prop} (h0 : Nat) (tp : Nat) (tr : Nat) (rr : Nat) (dr : Nat) (rs : Nat) (nr : Nat) (nw : Nat) (im : Nat) (ac : Nat) (co : Nat) (al : Nat) (ta : Nat) (ma : Nat) (ga : Nat) (og : Nat) (pl : Nat) (sa : Nat) (no : Nat) (j0 : Nat) (j1 : Nat) (j2 : Nat) (j3 : Nat) (j4 : Nat) (j5 : Nat) (y0 : Nat) (m_tape : Nat) (m_sign : Nat) (m_length : Nat) (m_clause : Nat) (m_clauses : Nat) (m_read : Nat) (m_open : Nat) (m_stack : Nat) (m_word : Nat) (m_said : Nat) (m_goesTo : Nat) (m_hadBy : Nat) (m_wasSaid : Nat) (m_kept : Nat) (m_hasBy : Nat) (m_standsThen : Nat) (m_isFit : Nat) (m_cornerThen : Nat) (m_images : Nat) (m_imageForce : Nat) (m_imageX : Nat) (m_isMade : Nat) (E : mE p s m meth c code #[Value.ref b] 4 RL D K A) (hr : meth.sig.returnType = ret) (hX : va_X b 6 xs s s.heap) (hbl : b < s.heap.size) (hbA : ¬ A b) (hge : ∀ q : Nat, A q → s.heap.size ≤ q) {H : Heap} {locs : List Loc} {ls : Array Slot} (G : mG D A s H locs [(h0, .inr (10, [.ref tp, .ref tr, .ref rr, .ref dr, .ref rs, .int 0, .ref nr, .ref nw, .ref im, .int 0, .ref ac, .ref co, .ref al, .ref ta, .ref ma, .ref ga, .ref og])), (nw, .inr (2, [.ref pl, .ref sa, .ref no, .int (-1), .int 0])), (pl, .inr (8, [.int 0, .int 0, .int 0, .int 0, .ref j0, .ref j1, .ref j2, .ref j3, .ref j4, .ref j5])), (y0, .inr (11, [.ref m_tape, .int 0, .int 0, .ref m_sign, .ref m_length, .ref m_clause, .ref m_clauses, .ref m_read, .int 0, .int 0, .int 0, .int 0, .int 0, .int 0, .int 0, .ref m_open, .int 0, .ref m_stack, .int 0, .ref m_word, .ref m_said, .int (-1), .int 0, .ref m_goesTo, .ref m_hadBy, .ref m_wasSaid, .int 0, .ref m_kept, .ref m_hasBy, .ref m_standsThen, .ref m_isFit, .ref m_cornerThen, .long 0, .ref m_images, .ref m_imageForce, .ref m_imageX, .ref m_isMade])), (m_said, .inl (K 0, 127, .inl (fun _ => 0)))]) (hl : lv_has ls 4 [(3, .int 0), (2, .ref y0), (1, .ref h0), (0, .ref b)]) : W p l e room_1 s m #[Value.ref b] below meth c H locs 600000 7302250 (lw_Z below #[Value.ref b] s) (F0 m 785 ls []) := by
  refine lv_aload_n E.1 E.2.1 dL_law_785 rfl (lv_at hl 2 rfl) ?_
  refine lv_aload_n E.1 E.2.1 dL_law_786 rfl (lv_at hl 3 rfl) ?_
  refine lv_iload_n E.1 E.2.1 dL_law_787 rfl (lv_at hl 0 rfl) ?_
  refine lv_iconst (v := 1) E.1 E.2.1 dL_law_788 (by decide) ?_
  refine lv_iadd E.1 E.2.1 dL_law_789 ?_
  refine m_ci 1 (by decide) ?_
  refine va_sld E.1 E.2.1 hX hbl hbA G.2.2 (by unfold vp_in; decide) dL_law_790 ?_
  refine m_ci (xs 1) rfl ?_
  refine lv_aload_n E.1 E.2.1 dL_law_791 rfl (lv_at hl 3 rfl) ?_
  refine lv_iload_n E.1 E.2.1 dL_law_792 rfl (lv_at hl 0 rfl) ?_
  refine lv_iconst (v := 2) E.1 E.2.1 dL_law_793 (by decide) ?_
  refine lv_iadd E.1 E.2.1 dL_law_794 ?_
  refine m_ci 2 (by decide) ?_
  refine va_sld E.1 E.2.1 hX hbl hbA G.2.2 (by unfold vp_in; decide) dL_law_795 ?_
  refine m_ci (xs 2) rfl ?_
  refine lv_aload_n E.1 E.2.1 dL_law_796 rfl (lv_at hl 3 rfl) ?_
  refine lv_iload_n E.1 E.2.1 dL_law_797 rfl (lv_at hl 0 rfl) ?_
  refine lv_iconst (v := 3) E.1 E.2.1 dL_law_798 (by decide) ?_
  refine lv_iadd E.1 E.2.1 dL_law_799 ?_
  refine m_ci 3 (by decide) ?_
  refine va_sld E.1 E.2.1 hX hbl hbA G.2.2 (by unfold vp_in; decide) dL_law_800 ?_
  refine m_ci (xs 3) rfl ?_
  refine m_vi E G hl (k_kind l D K h0 tp tr rr dr rs nr nw im ac co al ta ma ga og pl sa no j0 j1 j2 j3 j4 j5 (xs 1) (xs 2) (xs 3)) (wr := [(y0, .inr (11, [.ref m_tape, .int 0, .int 0, .ref m_sign, .ref m_length, .ref m_clause, .ref m_clauses, .ref m_read, .int 0, .int 0, .int 0, .int 0, .int 0, .int 0, .int 0, .ref m_open, .int 0, .ref m_stack, .int 0, .ref m_word, .ref m_said, .int (-1), .int 0, .ref m_goesTo, .ref m_hadBy, .ref m_wasSaid, .int 0, .ref m_kept, .ref m_hasBy, .ref m_standsThen, .ref m_isFit, .ref m_cornerThen, .long 0, .ref m_images, .ref m_imageForce, .ref m_imageX, .ref m_isMade])), (m_said, .inl (K 0, 127, .inl (fun _ => 0)))]) [0, 1, 2] [3, 4] rfl rfl (by decide) (by decide) (by decide) 0 (ci := 10) rfl rfl rfl 3 rfl mw_code_X10_kind mw_ini_10 mw_ml_L_102 mw_inst_X10_kind mw_sel_X10_kind hd_X10_kind ⟨by decide, by decide⟩ rfl (Nat.le_of_ble_eq_true rfl) ⟨by decide, by decide⟩ dL_law_801 (fun r_2 u_1 H locs hp G => ?_)
  have G : mG D A s H locs [(y0, .inr (11, [.ref m_tape, .int 0, .int 0, .ref m_sign, .ref m_length, .ref m_clause, .ref m_clauses, .ref m_read, .int 0, .int 0, .int 0, .int 0, .int 0, .int 0, .int 0, .ref m_open, .int 0, .ref m_stack, .int 0, .ref m_word, .ref m_said, .int (-1), .int 0, .ref m_goesTo, .ref m_hadBy, .ref m_wasSaid, .int 0, .ref m_kept, .ref m_hasBy, .ref m_standsThen, .ref m_isFit, .ref m_cornerThen, .long 0, .ref m_images, .ref m_imageForce, .ref m_imageX, .ref m_isMade])), (m_said, .inl (K 0, 127, .inl (fun _ => 0)))] := G
  subst hp
  refine lv_aload_n E.1 E.2.1 dL_law_804 rfl (lv_at hl 1 rfl) ?_
  refine lv_aload_n E.1 E.2.1 dL_law_805 rfl (lv_at hl 3 rfl) ?_
  refine lv_iload_n E.1 E.2.1 dL_law_806 rfl (lv_at hl 0 rfl) ?_
  refine lv_iconst (v := 1) E.1 E.2.1 dL_law_807 (by decide) ?_
  refine lv_iadd E.1 E.2.1 dL_law_808 ?_
  refine m_ci 1 (by decide) ?_
  refine va_sld E.1 E.2.1 hX hbl hbA G.2.2 (by unfold vp_in; decide) dL_law_809 ?_
  refine m_ci (xs 1) rfl ?_
  refine lv_aload_n E.1 E.2.1 dL_law_810 rfl (lv_at hl 3 rfl) ?_
  refine lv_iload_n E.1 E.2.1 dL_law_811 rfl (lv_at hl 0 rfl) ?_
  refine lv_iconst (v := 2) E.1 E.2.1 dL_law_812 (by decide) ?_
  refine lv_iadd E.1 E.2.1 dL_law_813 ?_
  refine m_ci 2 (by decide) ?_
  refine va_sld E.1 E.2.1 hX hbl hbA G.2.2 (by unfold vp_in; decide) dL_law_814 ?_
  refine m_ci (xs 2) rfl ?_
  refine lv_aload_n E.1 E.2.1 dL_law_815 rfl (lv_at hl 3 rfl) ?_
  refine lv_iload_n E.1 E.2.1 dL_law_816 rfl (lv_at hl 0 rfl) ?_
  refine lv_iconst (v := 3) E.1 E.2.1 dL_law_817 (by decide) ?_
  refine lv_iadd E.1 E.2.1 dL_law_818 ?_
  refine m_ci 3 (by decide) ?_
  refine va_sld E.1 E.2.1 hX hbl hbA G.2.2 (by unfold vp_in; decide) dL_law_819 ?_
  refine m_ci (xs 3) rfl ?_
  refine m_vi E G hl (r_kind l D K y0 m_tape m_sign m_length m_clause m_clauses m_read m_open m_stack m_word m_said m_goesTo m_hadBy m_wasSaid m_kept m_hasBy m_standsThen m_isFit m_cornerThen m_images m_imageForce m_imageX m_isMade (xs 1) (xs 2) (xs 3)) (wr := []) [0, 1] [] rfl rfl (by decide) (by decide) (by decide) 0 (ci := 11) rfl rfl rfl 3 rfl mw_code_X11_kind mw_ini_11 mw_ml_L_105 mw_inst_X11_kind mw_sel_X11_kind hd_X11_kind ⟨by decide, by decide⟩ rfl (Nat.le_of_ble_eq_true rfl) ⟨by decide, by decide⟩ dL_law_820 (fun r_4 u_3 H locs hp G => ?_)
  have G : mG D A s H locs [] := G
  subst hp
  refine lv_icmp_eq (tgt := 1250) E.1 E.2.1 dL_law_823 (by decide) (fun _ => ?_) (fun h => absurd (by decide) h)
  exact law_tail l E hr hX hbl hbA hge G.2.2 (lv_sub hl [3, 0] rfl)
