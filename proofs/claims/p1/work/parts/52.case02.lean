set_option maxHeartbeats 4000000 in
set_option maxRecDepth 100000 in
theorem law_cover {p : Program} {e : Env} {s : State} {m : MethodId} {below : List Frame} {meth : Method} {c : Code} (l : Launch) {b : Nat} {xs : Nat → Int32} {D : va_G} {K : Nat → ClassId} {A : Nat → Prop} (h0 : Nat) (tp : Nat) (tr : Nat) (rr : Nat) (dr : Nat) (rs : Nat) (nr : Nat) (nw : Nat) (im : Nat) (ac : Nat) (co : Nat) (al : Nat) (ta : Nat) (ma : Nat) (ga : Nat) (og : Nat) (pl : Nat) (sa : Nat) (no : Nat) (j0 : Nat) (j1 : Nat) (j2 : Nat) (j3 : Nat) (j4 : Nat) (j5 : Nat) (y0 : Nat) (m_tape : Nat) (m_sign : Nat) (m_length : Nat) (m_clause : Nat) (m_clauses : Nat) (m_read : Nat) (m_open : Nat) (m_stack : Nat) (m_word : Nat) (m_said : Nat) (m_goesTo : Nat) (m_hadBy : Nat) (m_wasSaid : Nat) (m_kept : Nat) (m_hasBy : Nat) (m_standsThen : Nat) (m_isFit : Nat) (m_cornerThen : Nat) (m_images : Nat) (m_imageForce : Nat) (m_imageX : Nat) (m_isMade : Nat) (E : mE p s m meth c code #[Value.ref b] 4 RL D K A) (hr : meth.sig.returnType = ret) (hX : va_X b 6 xs s s.heap) (hbl : b < s.heap.size) (hbA : ¬ A b) (hge : ∀ q : Nat, A q → s.heap.size ≤ q) {H : Heap} {locs : List Loc} {ls : Array Slot} (G : mG D A s H locs [(h0, .inr (10, [.ref tp, .ref tr, .ref rr, .ref dr, .ref rs, .int 0, .ref nr, .ref nw, .ref im, .int 0, .ref ac, .ref co, .ref al, .ref ta, .ref ma, .ref ga, .ref og])), (nw, .inr (2, [.ref pl, .ref sa, .ref no, .int (-1), .int 0])), (pl, .inr (8, [.int 0, .int 0, .int 0, .int 0, .ref j0, .ref j1, .ref j2, .ref j3, .ref j4, .ref j5])), (y0, .inr (11, [.ref m_tape, .int 0, .int 0, .ref m_sign, .ref m_length, .ref m_clause, .ref m_clauses, .ref m_read, .int 0, .int 0, .int 0, .int 0, .int 0, .int 0, .int 0, .ref m_open, .int 0, .ref m_stack, .int 0, .ref m_word, .ref m_said, .int (-1), .int 0, .ref m_goesTo, .ref m_hadBy, .ref m_wasSaid, .int 0, .ref m_kept, .ref m_hasBy, .ref m_standsThen, .ref m_isFit, .ref m_cornerThen, .long 0, .ref m_images, .ref m_imageForce, .ref m_imageX, .ref m_isMade])), (m_said, .inl (K 0, 127, .inl (fun _ => 0)))]) (hl : lv_has ls 4 [(3, .int 0), (2, .ref y0), (1, .ref h0), (0, .ref b)]) : W p l e room_1 s m #[Value.ref b] below meth c H locs 600000 7302250 (lw_Z below #[Value.ref b] s) (F0 m 828 ls []) := by
  refine lv_aload_n E.1 E.2.1 dL_law_828 rfl (lv_at hl 2 rfl) ?_
  refine lv_aload_n E.1 E.2.1 dL_law_829 rfl (lv_at hl 3 rfl) ?_
  refine lv_iload_n E.1 E.2.1 dL_law_830 rfl (lv_at hl 0 rfl) ?_
  refine lv_iconst (v := 1) E.1 E.2.1 dL_law_831 (by decide) ?_
  refine lv_iadd E.1 E.2.1 dL_law_832 ?_
  refine m_ci 1 (by decide) ?_
  refine va_sld E.1 E.2.1 hX hbl hbA G.2.2 (by unfold vp_in; decide) dL_law_833 ?_
  refine m_ci (xs 1) rfl ?_
  refine m_vi E G hl (k_cover l D K h0 tp tr rr dr rs nr nw im ac co al ta ma ga og pl sa no j0 j1 j2 j3 j4 j5 (xs 1)) (wr := [(y0, .inr (11, [.ref m_tape, .int 0, .int 0, .ref m_sign, .ref m_length, .ref m_clause, .ref m_clauses, .ref m_read, .int 0, .int 0, .int 0, .int 0, .int 0, .int 0, .int 0, .ref m_open, .int 0, .ref m_stack, .int 0, .ref m_word, .ref m_said, .int (-1), .int 0, .ref m_goesTo, .ref m_hadBy, .ref m_wasSaid, .int 0, .ref m_kept, .ref m_hasBy, .ref m_standsThen, .ref m_isFit, .ref m_cornerThen, .long 0, .ref m_images, .ref m_imageForce, .ref m_imageX, .ref m_isMade])), (m_said, .inl (K 0, 127, .inl (fun _ => 0)))]) [0, 1, 2] [3, 4] rfl rfl (by decide) (by decide) (by decide) 0 (ci := 10) rfl rfl rfl 1 rfl mw_code_X10_cover mw_ini_10 mw_ml_L_106 mw_inst_X10_cover mw_sel_X10_cover hd_X10_cover ⟨by decide, by decide⟩ rfl (Nat.le_of_ble_eq_true rfl) ⟨by decide, by decide⟩ dL_law_834 (fun r_2 u_1 H locs hp G => ?_)
  have G : mG D A s H locs [(y0, .inr (11, [.ref m_tape, .int 0, .int 0, .ref m_sign, .ref m_length, .ref m_clause, .ref m_clauses, .ref m_read, .int 0, .int 0, .int 0, .int 0, .int 0, .int 0, .int 0, .ref m_open, .int 0, .ref m_stack, .int 0, .ref m_word, .ref m_said, .int (-1), .int 0, .ref m_goesTo, .ref m_hadBy, .ref m_wasSaid, .int 0, .ref m_kept, .ref m_hasBy, .ref m_standsThen, .ref m_isFit, .ref m_cornerThen, .long 0, .ref m_images, .ref m_imageForce, .ref m_imageX, .ref m_isMade])), (m_said, .inl (K 0, 127, .inl (fun _ => 0)))] := G
  subst hp
  refine lv_aload_n E.1 E.2.1 dL_law_837 rfl (lv_at hl 1 rfl) ?_
  refine lv_aload_n E.1 E.2.1 dL_law_838 rfl (lv_at hl 3 rfl) ?_
  refine lv_iload_n E.1 E.2.1 dL_law_839 rfl (lv_at hl 0 rfl) ?_
  refine lv_iconst (v := 1) E.1 E.2.1 dL_law_840 (by decide) ?_
  refine lv_iadd E.1 E.2.1 dL_law_841 ?_
  refine m_ci 1 (by decide) ?_
  refine va_sld E.1 E.2.1 hX hbl hbA G.2.2 (by unfold vp_in; decide) dL_law_842 ?_
  refine m_ci (xs 1) rfl ?_
  refine m_vi E G hl (r_cover l D K y0 m_tape m_sign m_length m_clause m_clauses m_read m_open m_stack m_word m_said m_goesTo m_hadBy m_wasSaid m_kept m_hasBy m_standsThen m_isFit m_cornerThen m_images m_imageForce m_imageX m_isMade (xs 1)) (wr := []) [0, 1] [] rfl rfl (by decide) (by decide) (by decide) 0 (ci := 11) rfl rfl rfl 1 rfl mw_code_X11_cover mw_ini_11 mw_ml_L_109 mw_inst_X11_cover mw_sel_X11_cover hd_X11_cover ⟨by decide, by decide⟩ rfl (Nat.le_of_ble_eq_true rfl) ⟨by decide, by decide⟩ dL_law_843 (fun r_4 u_3 H locs hp G => ?_)
  have G : mG D A s H locs [] := G
  subst hp
  refine lv_icmp_eq (tgt := 1250) E.1 E.2.1 dL_law_846 (by decide) (fun _ => ?_) (fun h => absurd (by decide) h)
  exact law_tail l E hr hX hbl hbA hge G.2.2 (lv_sub hl [3, 0] rfl)
set_option maxHeartbeats 4000000 in
set_option maxRecDepth 100000 in
theorem law_hearts {p : Program} {e : Env} {s : State} {m : MethodId} {below : List Frame} {meth : Method} {c : Code} (l : Launch) {b : Nat} {xs : Nat → Int32} {D : va_G} {K : Nat → ClassId} {A : Nat → Prop} (h0 : Nat) (tp : Nat) (tr : Nat) (rr : Nat) (dr : Nat) (rs : Nat) (nr : Nat) (nw : Nat) (im : Nat) (ac : Nat) (co : Nat) (al : Nat) (ta : Nat) (ma : Nat) (ga : Nat) (og : Nat) (pl : Nat) (sa : Nat) (no : Nat) (j0 : Nat) (j1 : Nat) (j2 : Nat) (j3 : Nat) (j4 : Nat) (j5 : Nat) (y0 : Nat) (m_tape : Nat) (m_sign : Nat) (m_length : Nat) (m_clause : Nat) (m_clauses : Nat) (m_read : Nat) (m_open : Nat) (m_stack : Nat) (m_word : Nat) (m_said : Nat) (m_goesTo : Nat) (m_hadBy : Nat) (m_wasSaid : Nat) (m_kept : Nat) (m_hasBy : Nat) (m_standsThen : Nat) (m_isFit : Nat) (m_cornerThen : Nat) (m_images : Nat) (m_imageForce : Nat) (m_imageX : Nat) (m_isMade : Nat) (E : mE p s m meth c code #[Value.ref b] 4 RL D K A) (hr : meth.sig.returnType = ret) (hX : va_X b 6 xs s s.heap) (hbl : b < s.heap.size) (hbA : ¬ A b) (hge : ∀ q : Nat, A q → s.heap.size ≤ q) {H : Heap} {locs : List Loc} {ls : Array Slot} (G : mG D A s H locs [(h0, .inr (10, [.ref tp, .ref tr, .ref rr, .ref dr, .ref rs, .int 0, .ref nr, .ref nw, .ref im, .int 0, .ref ac, .ref co, .ref al, .ref ta, .ref ma, .ref ga, .ref og])), (nw, .inr (2, [.ref pl, .ref sa, .ref no, .int (-1), .int 0])), (pl, .inr (8, [.int 0, .int 0, .int 0, .int 0, .ref j0, .ref j1, .ref j2, .ref j3, .ref j4, .ref j5])), (y0, .inr (11, [.ref m_tape, .int 0, .int 0, .ref m_sign, .ref m_length, .ref m_clause, .ref m_clauses, .ref m_read, .int 0, .int 0, .int 0, .int 0, .int 0, .int 0, .int 0, .ref m_open, .int 0, .ref m_stack, .int 0, .ref m_word, .ref m_said, .int (-1), .int 0, .ref m_goesTo, .ref m_hadBy, .ref m_wasSaid, .int 0, .ref m_kept, .ref m_hasBy, .ref m_standsThen, .ref m_isFit, .ref m_cornerThen, .long 0, .ref m_images, .ref m_imageForce, .ref m_imageX, .ref m_isMade])), (m_said, .inl (K 0, 127, .inl (fun _ => 0)))]) (hl : lv_has ls 4 [(3, .int 0), (2, .ref y0), (1, .ref h0), (0, .ref b)]) : W p l e room_1 s m #[Value.ref b] below meth c H locs 600000 7302250 (lw_Z below #[Value.ref b] s) (F0 m 851 ls []) := by
  refine lv_aload_n E.1 E.2.1 dL_law_851 rfl (lv_at hl 2 rfl) ?_
  refine lv_aload_n E.1 E.2.1 dL_law_852 rfl (lv_at hl 3 rfl) ?_
  refine lv_iload_n E.1 E.2.1 dL_law_853 rfl (lv_at hl 0 rfl) ?_
  refine lv_iconst (v := 1) E.1 E.2.1 dL_law_854 (by decide) ?_
  refine lv_iadd E.1 E.2.1 dL_law_855 ?_
  refine m_ci 1 (by decide) ?_
  refine va_sld E.1 E.2.1 hX hbl hbA G.2.2 (by unfold vp_in; decide) dL_law_856 ?_
  refine m_ci (xs 1) rfl ?_
  refine m_vi E G hl (k_hearts l D K h0 tp tr rr dr rs nr nw im ac co al ta ma ga og pl sa no j0 j1 j2 j3 j4 j5 (xs 1)) (wr := [(y0, .inr (11, [.ref m_tape, .int 0, .int 0, .ref m_sign, .ref m_length, .ref m_clause, .ref m_clauses, .ref m_read, .int 0, .int 0, .int 0, .int 0, .int 0, .int 0, .int 0, .ref m_open, .int 0, .ref m_stack, .int 0, .ref m_word, .ref m_said, .int (-1), .int 0, .ref m_goesTo, .ref m_hadBy, .ref m_wasSaid, .int 0, .ref m_kept, .ref m_hasBy, .ref m_standsThen, .ref m_isFit, .ref m_cornerThen, .long 0, .ref m_images, .ref m_imageForce, .ref m_imageX, .ref m_isMade])), (m_said, .inl (K 0, 127, .inl (fun _ => 0)))]) [0, 1, 2] [3, 4] rfl rfl (by decide) (by decide) (by decide) 0 (ci := 10) rfl rfl rfl 1 rfl mw_code_X10_hearts mw_ini_10 mw_ml_L_110 mw_inst_X10_hearts mw_sel_X10_hearts hd_X10_hearts ⟨by decide, by decide⟩ rfl (Nat.le_of_ble_eq_true rfl) ⟨by decide, by decide⟩ dL_law_857 (fun r_2 u_1 H locs hp G => ?_)
  have G : mG D A s H locs [(y0, .inr (11, [.ref m_tape, .int 0, .int 0, .ref m_sign, .ref m_length, .ref m_clause, .ref m_clauses, .ref m_read, .int 0, .int 0, .int 0, .int 0, .int 0, .int 0, .int 0, .ref m_open, .int 0, .ref m_stack, .int 0, .ref m_word, .ref m_said, .int (-1), .int 0, .ref m_goesTo, .ref m_hadBy, .ref m_wasSaid, .int 0, .ref m_kept, .ref m_hasBy, .ref m_standsThen, .ref m_isFit, .ref m_cornerThen, .long 0, .ref m_images, .ref m_imageForce, .ref m_imageX, .ref m_isMade])), (m_said, .inl (K 0, 127, .inl (fun _ => 0)))] := G
  subst hp
  refine lv_aload_n E.1 E.2.1 dL_law_860 rfl (lv_at hl 1 rfl) ?_
  refine lv_aload_n E.1 E.2.1 dL_law_861 rfl (lv_at hl 3 rfl) ?_
  refine lv_iload_n E.1 E.2.1 dL_law_862 rfl (lv_at hl 0 rfl) ?_
  refine lv_iconst (v := 1) E.1 E.2.1 dL_law_863 (by decide) ?_
  refine lv_iadd E.1 E.2.1 dL_law_864 ?_
  refine m_ci 1 (by decide) ?_
  refine va_sld E.1 E.2.1 hX hbl hbA G.2.2 (by unfold vp_in; decide) dL_law_865 ?_
  refine m_ci (xs 1) rfl ?_
  refine m_vi E G hl (r_hearts l D K y0 m_tape m_sign m_length m_clause m_clauses m_read m_open m_stack m_word m_said m_goesTo m_hadBy m_wasSaid m_kept m_hasBy m_standsThen m_isFit m_cornerThen m_images m_imageForce m_imageX m_isMade (xs 1)) (wr := []) [0, 1] [] rfl rfl (by decide) (by decide) (by decide) 0 (ci := 11) rfl rfl rfl 1 rfl mw_code_X11_hearts mw_ini_11 mw_ml_L_113 mw_inst_X11_hearts mw_sel_X11_hearts hd_X11_hearts ⟨by decide, by decide⟩ rfl (Nat.le_of_ble_eq_true rfl) ⟨by decide, by decide⟩ dL_law_866 (fun r_4 u_3 H locs hp G => ?_)
  have G : mG D A s H locs [] := G
  subst hp
  refine lv_icmp_eq (tgt := 1250) E.1 E.2.1 dL_law_869 (by decide) (fun _ => ?_) (fun h => absurd (by decide) h)
  exact law_tail l E hr hX hbl hbA hge G.2.2 (lv_sub hl [3, 0] rfl)
set_option maxHeartbeats 4000000 in
set_option maxRecDepth 100000 in
theorem law_waries {p : Program} {e : Env} {s : State} {m : MethodId} {below : List Frame} {meth : Method} {c : Code} (l : Launch) {b : Nat} {xs : Nat → Int32} {D : va_G} {K : Nat → ClassId} {A : Nat → Prop} (h0 : Nat) (tp : Nat) (tr : Nat) (rr : Nat) (dr : Nat) (rs : Nat) (nr : Nat) (nw : Nat) (im : Nat) (ac : Nat) (co : Nat) (al : Nat) (ta : Nat) (ma : Nat) (ga : Nat) (og : Nat) (pl : Nat) (sa : Nat) (no : Nat) (j0 : Nat) (j1 : Nat) (j2 : Nat) (j3 : Nat) (j4 : Nat) (j5 : Nat) (y0 : Nat) (m_tape : Nat) (m_sign : Nat) (m_length : Nat) (m_clause : Nat) (m_clauses : Nat) (m_read : Nat) (m_open : Nat) (m_stack : Nat) (m_word : Nat) (m_said : Nat) (m_goesTo : Nat) (m_hadBy : Nat) (m_wasSaid : Nat) (m_kept : Nat) (m_hasBy : Nat) (m_standsThen : Nat) (m_isFit : Nat) (m_cornerThen : Nat) (m_images : Nat) (m_imageForce : Nat) (m_imageX : Nat) (m_isMade : Nat) (E : mE p s m meth c code #[Value.ref b] 4 RL D K A) (hr : meth.sig.returnType = ret) (hX : va_X b 6 xs s s.heap) (hbl : b < s.heap.size) (hbA : ¬ A b) (hge : ∀ q : Nat, A q → s.heap.size ≤ q) {H : Heap} {locs : List Loc} {ls : Array Slot} (G : mG D A s H locs [(h0, .inr (10, [.ref tp, .ref tr, .ref rr, .ref dr, .ref rs, .int 0, .ref nr, .ref nw, .ref im, .int 0, .ref ac, .ref co, .ref al, .ref ta, .ref ma, .ref ga, .ref og])), (nw, .inr (2, [.ref pl, .ref sa, .ref no, .int (-1), .int 0])), (pl, .inr (8, [.int 0, .int 0, .int 0, .int 0, .ref j0, .ref j1, .ref j2, .ref j3, .ref j4, .ref j5])), (y0, .inr (11, [.ref m_tape, .int 0, .int 0, .ref m_sign, .ref m_length, .ref m_clause, .ref m_clauses, .ref m_read, .int 0, .int 0, .int 0, .int 0, .int 0, .int 0, .int 0, .ref m_open, .int 0, .ref m_stack, .int 0, .ref m_word, .ref m_said, .int (-1), .int 0, .ref m_goesTo, .ref m_hadBy, .ref m_wasSaid, .int 0, .ref m_kept, .ref m_hasBy, .ref m_standsThen, .ref m_isFit, .ref m_cornerThen, .long 0, .ref m_images, .ref m_imageForce, .ref m_imageX, .ref m_isMade])), (m_said, .inl (K 0, 127, .inl (fun _ => 0)))]) (hl : lv_has ls 4 [(3, .int 0), (2, .ref y0), (1, .ref h0), (0, .ref b)]) : W p l e room_1 s m #[Value.ref b] below meth c H locs 600000 7302250 (lw_Z below #[Value.ref b] s) (F0 m 874 ls []) := by
  refine lv_aload_n E.1 E.2.1 dL_law_874 rfl (lv_at hl 2 rfl) ?_
  refine lv_aload_n E.1 E.2.1 dL_law_875 rfl (lv_at hl 3 rfl) ?_
  refine lv_iload_n E.1 E.2.1 dL_law_876 rfl (lv_at hl 0 rfl) ?_
  refine lv_iconst (v := 1) E.1 E.2.1 dL_law_877 (by decide) ?_
  refine lv_iadd E.1 E.2.1 dL_law_878 ?_
  refine m_ci 1 (by decide) ?_
  refine va_sld E.1 E.2.1 hX hbl hbA G.2.2 (by unfold vp_in; decide) dL_law_879 ?_
  refine m_ci (xs 1) rfl ?_
  refine m_vi E G hl (k_waries l D K h0 tp tr rr dr rs nr nw im ac co al ta ma ga og pl sa no j0 j1 j2 j3 j4 j5 (xs 1)) (wr := [(y0, .inr (11, [.ref m_tape, .int 0, .int 0, .ref m_sign, .ref m_length, .ref m_clause, .ref m_clauses, .ref m_read, .int 0, .int 0, .int 0, .int 0, .int 0, .int 0, .int 0, .ref m_open, .int 0, .ref m_stack, .int 0, .ref m_word, .ref m_said, .int (-1), .int 0, .ref m_goesTo, .ref m_hadBy, .ref m_wasSaid, .int 0, .ref m_kept, .ref m_hasBy, .ref m_standsThen, .ref m_isFit, .ref m_cornerThen, .long 0, .ref m_images, .ref m_imageForce, .ref m_imageX, .ref m_isMade])), (m_said, .inl (K 0, 127, .inl (fun _ => 0)))]) [0, 1, 2] [3, 4] rfl rfl (by decide) (by decide) (by decide) 0 (ci := 10) rfl rfl rfl 1 rfl mw_code_X10_waries mw_ini_10 mw_ml_L_114 mw_inst_X10_waries mw_sel_X10_waries hd_X10_waries ⟨by decide, by decide⟩ rfl (Nat.le_of_ble_eq_true rfl) ⟨by decide, by decide⟩ dL_law_880 (fun r_2 u_1 H locs hp G => ?_)
  have G : mG D A s H locs [(y0, .inr (11, [.ref m_tape, .int 0, .int 0, .ref m_sign, .ref m_length, .ref m_clause, .ref m_clauses, .ref m_read, .int 0, .int 0, .int 0, .int 0, .int 0, .int 0, .int 0, .ref m_open, .int 0, .ref m_stack, .int 0, .ref m_word, .ref m_said, .int (-1), .int 0, .ref m_goesTo, .ref m_hadBy, .ref m_wasSaid, .int 0, .ref m_kept, .ref m_hasBy, .ref m_standsThen, .ref m_isFit, .ref m_cornerThen, .long 0, .ref m_images, .ref m_imageForce, .ref m_imageX, .ref m_isMade])), (m_said, .inl (K 0, 127, .inl (fun _ => 0)))] := G
  subst hp
  refine lv_aload_n E.1 E.2.1 dL_law_883 rfl (lv_at hl 1 rfl) ?_
  refine lv_aload_n E.1 E.2.1 dL_law_884 rfl (lv_at hl 3 rfl) ?_
  refine lv_iload_n E.1 E.2.1 dL_law_885 rfl (lv_at hl 0 rfl) ?_
  refine lv_iconst (v := 1) E.1 E.2.1 dL_law_886 (by decide) ?_
  refine lv_iadd E.1 E.2.1 dL_law_887 ?_
  refine m_ci 1 (by decide) ?_
  refine va_sld E.1 E.2.1 hX hbl hbA G.2.2 (by unfold vp_in; decide) dL_law_888 ?_
  refine m_ci (xs 1) rfl ?_
  refine m_vi E G hl (r_waries l D K y0 m_tape m_sign m_length m_clause m_clauses m_read m_open m_stack m_word m_said m_goesTo m_hadBy m_wasSaid m_kept m_hasBy m_standsThen m_isFit m_cornerThen m_images m_imageForce m_imageX m_isMade (xs 1)) (wr := []) [0, 1] [] rfl rfl (by decide) (by decide) (by decide) 0 (ci := 11) rfl rfl rfl 1 rfl mw_code_X11_waries mw_ini_11 mw_ml_L_117 mw_inst_X11_waries mw_sel_X11_waries hd_X11_waries ⟨by decide, by decide⟩ rfl (Nat.le_of_ble_eq_true rfl) ⟨by decide, by decide⟩ dL_law_889 (fun r_4 u_3 H locs hp G => ?_)
  have G : mG D A s H locs [] := G
  subst hp
  refine lv_icmp_eq (tgt := 1250) E.1 E.2.1 dL_law_892 (by decide) (fun _ => ?_) (fun h => absurd (by decide) h)
  exact law_tail l E hr hX hbl hbA hge G.2.2 (lv_sub hl [3, 0] rfl)
set_option maxHeartbeats 4000000 in
set_option maxRecDepth 100000 in
theorem law_rests {p : Program} {e : Env} {s : State} {m : MethodId} {below : List Frame} {meth : Method} {c : Code} (l : Launch) {b : Nat} {xs : Nat → Int32} {D : va_G} {K : Nat → ClassId} {A : Nat → Prop} (h0 : Nat) (tp : Nat) (tr : Nat) (rr : Nat) (dr : Nat) (rs : Nat) (nr : Nat) (nw : Nat) (im : Nat) (ac : Nat) (co : Nat) (al : Nat) (ta : Nat) (ma : Nat) (ga : Nat) (og : Nat) (pl : Nat) (sa : Nat) (no : Nat) (j0 : Nat) (j1 : Nat) (j2 : Nat) (j3 : Nat) (j4 : Nat) (j5 : Nat) (y0 : Nat) (m_tape : Nat) (m_sign : Nat) (m_length : Nat) (m_clause : Nat) (m_clauses : Nat) (m_read : Nat) (m_open : Nat) (m_stack : Nat) (m_word : Nat) (m_said : Nat) (m_goesTo : Nat) (m_hadBy : Nat) (m_wasSaid : Nat) (m_kept : Nat) (m_hasBy : Nat) (m_standsThen : Nat) (m_isFit : Nat) (m_cornerThen : Nat) (m_images : Nat) (m_imageForce : Nat) (m_imageX : Nat) (m_isMade : Nat) (E : mE p s m meth c code #[Value.ref b] 4 RL D K A) (hr : meth.sig.returnType = ret) (hX : va_X b 6 xs s s.heap) (hbl : b < s.heap.size) (hbA : ¬ A b) (hge : ∀ q : Nat, A q → s.heap.size ≤ q) {H : Heap} {locs : List Loc} {ls : Array Slot} (G : mG D A s H locs [(h0, .inr (10, [.ref tp, .ref tr, .ref rr, .ref dr, .ref rs, .int 0, .ref nr, .ref nw, .ref im, .int 0, .ref ac, .ref co, .ref al, .ref ta, .ref ma, .ref ga, .ref og])), (nw, .inr (2, [.ref pl, .ref sa, .ref no, .int (-1), .int 0])), (pl, .inr (8, [.int 0, .int 0, .int 0, .int 0, .ref j0, .ref j1, .ref j2, .ref j3, .ref j4, .ref j5])), (y0, .inr (11, [.ref m_tape, .int 0, .int 0, .ref m_sign, .ref m_length, .ref m_clause, .ref m_clauses, .ref m_read, .int 0, .int 0, .int 0, .int 0, .int 0, .int 0, .int 0, .ref m_open, .int 0, .ref m_stack, .int 0, .ref m_word, .ref m_said, .int (-1), .int 0, .ref m_goesTo, .ref m_hadBy, .ref m_wasSaid, .int 0, .ref m_kept, .ref m_hasBy, .ref m_standsThen, .ref m_isFit, .ref m_cornerThen, .long 0, .ref m_images, .ref m_imageForce, .ref m_imageX, .ref m_isMade])), (m_said, .inl (K 0, 127, .inl (fun _ => 0)))]) (hl : lv_has ls 4 [(3, .int 0), (2, .ref y0), (1, .ref h0), (0, .ref b)]) : W p l e room_1 s m #[Value.ref b] below meth c H locs 600000 7302250 (lw_Z below #[Value.ref b] s) (F0 m 897 ls []) := by
  refine lv_aload_n E.1 E.2.1 dL_law_897 rfl (lv_at hl 2 rfl) ?_
  refine lv_aload_n E.1 E.2.1 dL_law_898 rfl (lv_at hl 3 rfl) ?_
  refine lv_iload_n E.1 E.2.1 dL_law_899 rfl (lv_at hl 0 rfl) ?_
  refine lv_iconst (v := 1) E.1 E.2.1 dL_law_900 (by decide) ?_
  refine lv_iadd E.1 E.2.1 dL_law_901 ?_
  refine m_ci 1 (by decide) ?_
  refine va_sld E.1 E.2.1 hX hbl hbA G.2.2 (by unfold vp_in; decide) dL_law_902 ?_
  refine m_ci (xs 1) rfl ?_
  refine lv_aload_n E.1 E.2.1 dL_law_903 rfl (lv_at hl 3 rfl) ?_
  refine lv_iload_n E.1 E.2.1 dL_law_904 rfl (lv_at hl 0 rfl) ?_
  refine lv_iconst (v := 2) E.1 E.2.1 dL_law_905 (by decide) ?_
  refine lv_iadd E.1 E.2.1 dL_law_906 ?_
  refine m_ci 2 (by decide) ?_
  refine va_sld E.1 E.2.1 hX hbl hbA G.2.2 (by unfold vp_in; decide) dL_law_907 ?_
  refine m_ci (xs 2) rfl ?_
  refine lv_aload_n E.1 E.2.1 dL_law_908 rfl (lv_at hl 3 rfl) ?_
  refine lv_iload_n E.1 E.2.1 dL_law_909 rfl (lv_at hl 0 rfl) ?_
  refine lv_iconst (v := 3) E.1 E.2.1 dL_law_910 (by decide) ?_
  refine lv_iadd E.1 E.2.1 dL_law_911 ?_
  refine m_ci 3 (by decide) ?_
  refine va_sld E.1 E.2.1 hX hbl hbA G.2.2 (by unfold vp_in; decide) dL_law_912 ?_
  refine m_ci (xs 3) rfl ?_
  refine lv_aload_n E.1 E.2.1 dL_law_913 rfl (lv_at hl 3 rfl) ?_
  refine lv_iload_n E.1 E.2.1 dL_law_914 rfl (lv_at hl 0 rfl) ?_
  refine lv_iconst (v := 4) E.1 E.2.1 dL_law_915 (by decide) ?_
  refine lv_iadd E.1 E.2.1 dL_law_916 ?_
  refine m_ci 4 (by decide) ?_
  refine va_sld E.1 E.2.1 hX hbl hbA G.2.2 (by unfold vp_in; decide) dL_law_917 ?_
  refine m_ci (xs 4) rfl ?_
  refine m_vi E G hl (k_rests l D K h0 tp tr rr dr rs nr nw im ac co al ta ma ga og pl sa no j0 j1 j2 j3 j4 j5 (xs 1) (xs 2) (xs 3) (xs 4)) (wr := [(y0, .inr (11, [.ref m_tape, .int 0, .int 0, .ref m_sign, .ref m_length, .ref m_clause, .ref m_clauses, .ref m_read, .int 0, .int 0, .int 0, .int 0, .int 0, .int 0, .int 0, .ref m_open, .int 0, .ref m_stack, .int 0, .ref m_word, .ref m_said, .int (-1), .int 0, .ref m_goesTo, .ref m_hadBy, .ref m_wasSaid, .int 0, .ref m_kept, .ref m_hasBy, .ref m_standsThen, .ref m_isFit, .ref m_cornerThen, .long 0, .ref m_images, .ref m_imageForce, .ref m_imageX, .ref m_isMade])), (m_said, .inl (K 0, 127, .inl (fun _ => 0)))]) [0, 1, 2] [3, 4] rfl rfl (by decide) (by decide) (by decide) 0 (ci := 10) rfl rfl rfl 4 rfl mw_code_X10_rests mw_ini_10 mw_ml_L_118 mw_inst_X10_rests mw_sel_X10_rests hd_X10_rests ⟨by decide, by decide⟩ rfl (Nat.le_of_ble_eq_true rfl) ⟨by decide, by decide⟩ dL_law_918 (fun r_2 u_1 H locs hp G => ?_)
  have G : mG D A s H locs [(y0, .inr (11, [.ref m_tape, .int 0, .int 0, .ref m_sign, .ref m_length, .ref m_clause, .ref m_clauses, .ref m_read, .int 0, .int 0, .int 0, .int 0, .int 0, .int 0, .int 0, .ref m_open, .int 0, .ref m_stack, .int 0, .ref m_word, .ref m_said, .int (-1), .int 0, .ref m_goesTo, .ref m_hadBy, .ref m_wasSaid, .int 0, .ref m_kept, .ref m_hasBy, .ref m_standsThen, .ref m_isFit, .ref m_cornerThen, .long 0, .ref m_images, .ref m_imageForce, .ref m_imageX, .ref m_isMade])), (m_said, .inl (K 0, 127, .inl (fun _ => 0)))] := G
  subst hp
  refine lv_aload_n E.1 E.2.1 dL_law_921 rfl (lv_at hl 1 rfl) ?_
  refine lv_aload_n E.1 E.2.1 dL_law_922 rfl (lv_at hl 3 rfl) ?_
  refine lv_iload_n E.1 E.2.1 dL_law_923 rfl (lv_at hl 0 rfl) ?_
  refine lv_iconst (v := 1) E.1 E.2.1 dL_law_924 (by decide) ?_
  refine lv_iadd E.1 E.2.1 dL_law_925 ?_
  refine m_ci 1 (by decide) ?_
  refine va_sld E.1 E.2.1 hX hbl hbA G.2.2 (by unfold vp_in; decide) dL_law_926 ?_
  refine m_ci (xs 1) rfl ?_
  refine lv_aload_n E.1 E.2.1 dL_law_927 rfl (lv_at hl 3 rfl) ?_
  refine lv_iload_n E.1 E.2.1 dL_law_928 rfl (lv_at hl 0 rfl) ?_
  refine lv_iconst (v := 2) E.1 E.2.1 dL_law_929 (by decide) ?_
  refine lv_iadd E.1 E.2.1 dL_law_930 ?_
  refine m_ci 2 (by decide) ?_
  refine va_sld E.1 E.2.1 hX hbl hbA G.2.2 (by unfold vp_in; decide) dL_law_931 ?_
  refine m_ci (xs 2) rfl ?_
  refine lv_aload_n E.1 E.2.1 dL_law_932 rfl (lv_at hl 3 rfl) ?_
  refine lv_iload_n E.1 E.2.1 dL_law_933 rfl (lv_at hl 0 rfl) ?_
  refine lv_iconst (v := 3) E.1 E.2.1 dL_law_934 (by decide) ?_
  refine lv_iadd E.1 E.2.1 dL_law_935 ?_
  refine m_ci 3 (by decide) ?_
  refine va_sld E.1 E.2.1 hX hbl hbA G.2.2 (by unfold vp_in; decide) dL_law_936 ?_
  refine m_ci (xs 3) rfl ?_
  refine lv_aload_n E.1 E.2.1 dL_law_937 rfl (lv_at hl 3 rfl) ?_
  refine lv_iload_n E.1 E.2.1 dL_law_938 rfl (lv_at hl 0 rfl) ?_
  refine lv_iconst (v := 4) E.1 E.2.1 dL_law_939 (by decide) ?_
  refine lv_iadd E.1 E.2.1 dL_law_940 ?_
  refine m_ci 4 (by decide) ?_
  refine va_sld E.1 E.2.1 hX hbl hbA G.2.2 (by unfold vp_in; decide) dL_law_941 ?_
  refine m_ci (xs 4) rfl ?_
  refine m_vi E G hl (r_rests l D K y0 m_tape m_sign m_length m_clause m_clauses m_read m_open m_stack m_word m_said m_goesTo m_hadBy m_wasSaid m_kept m_hasBy m_standsThen m_isFit m_cornerThen m_images m_imageForce m_imageX m_isMade (xs 1) (xs 2) (xs 3) (xs 4)) (wr := []) [0, 1] [] rfl rfl (by decide) (by decide) (by decide) 0 (ci := 11) rfl rfl rfl 4 rfl mw_code_X11_rests mw_ini_11 mw_ml_L_122 mw_inst_X11_rests mw_sel_X11_rests hd_X11_rests ⟨by decide, by decide⟩ rfl (Nat.le_of_ble_eq_true rfl) ⟨by decide, by decide⟩ dL_law_942 (fun r_4 u_3 H locs hp G => ?_)
  have G : mG D A s H locs [] := G
  subst hp
  refine lv_icmp_eq (tgt := 1250) E.1 E.2.1 dL_law_945 (by decide) (fun _ => ?_) (fun h => absurd (by decide) h)
  exact law_tail l E hr hX hbl hbA hge G.2.2 (lv_sub hl [3, 0] rfl)
set_option maxHeartbeats 4000000 in
set_option maxRecDepth 100000 in
theorem law_ring {p : Program} {e : Env} {s : State} {m : MethodId} {below : List Frame} {meth : Method} {c : Code} (l : Launch) {b : Nat} {xs : Nat → Int32} {D : va_G} {K : Nat → ClassId} {A : Nat → Prop} (h0 : Nat) (tp : Nat) (tr : Nat) (rr : Nat) (dr : Nat) (rs : Nat) (nr : Nat) (nw : Nat) (im : Nat) (ac : Nat) (co : Nat) (al : Nat) (ta : Nat) (ma : Nat) (ga : Nat) (og : Nat) (pl : Nat) (sa : Nat) (no : Nat) (j0 : Nat) (j1 : Nat) (j2 : Nat) (j3 : Nat) (j4 : Nat) (j5 : Nat) (y0 : Nat) (m_tape : Nat) (m_sign : Nat) (m_length : Nat) (m_clause : Nat) (m_clauses : Nat) (m_read : Nat) (m_open : Nat) (m_stack : Nat) (m_word : Nat) (m_said : Nat) (m_goesTo : Nat) (m_hadBy : Nat) (m_wasSaid : Nat) (m_kept : Nat) (m_hasBy : Nat) (m_standsThen : Nat) (m_isFit : Nat) (m_cornerThen : Nat) (m_images : Nat) (m_imageForce : Nat) (m_imageX : Nat) (m_isMade : Nat) (E : mE p s m meth c code #[Value.ref b] 4 RL D K A) (hr : meth.sig.returnType = ret) (hX : va_X b 6 xs s s.heap) (hbl : b < s.heap.size) (hbA : ¬ A b) (hge : ∀ q : Nat, A q → s.heap.size ≤ q) {H : Heap} {locs : List Loc} {ls : Array Slot} (G : mG D A s H locs [(h0, .inr (10, [.ref tp, .ref tr, .ref rr, .ref dr, .ref rs, .int 0, .ref nr, .ref nw, .ref im, .int 0, .ref ac, .ref co, .ref al, .ref ta, .ref ma, .ref ga, .ref og])), (nw, .inr (2, [.ref pl, .ref sa, .ref no, .int (-1), .int 0])), (pl, .inr (8, [.int 0, .int 0, .int 0, .int 0, .ref j0, .ref j1, .ref j2, .ref j3, .ref j4, .ref j5])), (y0, .inr (11, [.ref m_tape, .int 0, .int 0, .ref m_sign, .ref m_length, .ref m_clause, .ref m_clauses, .ref m_read, .int 0, .int 0, .int 0, .int 0, .int 0, .int 0, .int 0, .ref m_open, .int 0, .ref m_stack, .int 0, .ref m_word, .ref m_said, .int (-1), .int 0, .ref m_goesTo, .ref m_hadBy, .ref m_wasSaid, .int 0, .ref m_kept, .ref m_hasBy, .ref m_standsThen, .ref m_isFit, .ref m_cornerThen, .long 0, .ref m_images, .ref m_imageForce, .ref m_imageX, .ref m_isMade])), (m_said, .inl (K 0, 127, .inl (fun _ => 0)))]) (hl : lv_has ls 4 [(3, .int 0), (2, .ref y0), (1, .ref h0), (0, .ref b)]) : W p l e room_1 s m #[Value.ref b] below meth c H locs 600000 7302250 (lw_Z below #[Value.ref b] s) (F0 m 950 ls []) := by
  refine lv_aload_n E.1 E.2.1 dL_law_950 rfl (lv_at hl 2 rfl) ?_
  refine lv_aload_n E.1 E.2.1 dL_law_951 rfl (lv_at hl 3 rfl) ?_
  refine lv_iload_n E.1 E.2.1 dL_law_952 rfl (lv_at hl 0 rfl) ?_
  refine lv_iconst (v := 1) E.1 E.2.1 dL_law_953 (by decide) ?_
  refine lv_iadd E.1 E.2.1 dL_law_954 ?_
  refine m_ci 1 (by decide) ?_
  refine va_sld E.1 E.2.1 hX hbl hbA G.2.2 (by unfold vp_in; decide) dL_law_955 ?_
  refine m_ci (xs 1) rfl ?_
  refine m_vi E G hl (k_ring l D K h0 tp tr rr dr rs nr nw im ac co al ta ma ga og pl sa no j0 j1 j2 j3 j4 j5 (xs 1)) (wr := [(y0, .inr (11, [.ref m_tape, .int 0, .int 0, .ref m_sign, .ref m_length, .ref m_clause, .ref m_clauses, .ref m_read, .int 0, .int 0, .int 0, .int 0, .int 0, .int 0, .int 0, .ref m_open, .int 0, .ref m_stack, .int 0, .ref m_word, .ref m_said, .int (-1), .int 0, .ref m_goesTo, .ref m_hadBy, .ref m_wasSaid, .int 0, .ref m_kept, .ref m_hasBy, .ref m_standsThen, .ref m_isFit, .ref m_cornerThen, .long 0, .ref m_images, .ref m_imageForce, .ref m_imageX, .ref m_isMade])), (m_said, .inl (K 0, 127, .inl (fun _ => 0)))]) [0, 1, 2] [3, 4] rfl rfl (by decide) (by decide) (by decide) 0 (ci := 10) rfl rfl rfl 1 rfl mw_code_X10_ring mw_ini_10 mw_ml_L_123 mw_inst_X10_ring mw_sel_X10_ring hd_X10_ring ⟨by decide, by decide⟩ rfl (Nat.le_of_ble_eq_true rfl) ⟨by decide, by decide⟩ dL_law_956 (fun r_2 u_1 H locs hp G => ?_)
  have G : mG D A s H locs [(y0, .inr (11, [.ref m_tape, .int 0, .int 0, .ref m_sign, .ref m_length, .ref m_clause, .ref m_clauses, .ref m_read, .int 0, .int 0, .int 0, .int 0, .int 0, .int 0, .int 0, .ref m_open, .int 0, .ref m_stack, .int 0, .ref m_word, .ref m_said, .int (-1), .int 0, .ref m_goesTo, .ref m_hadBy, .ref m_wasSaid, .int 0, .ref m_kept, .ref m_hasBy, .ref m_standsThen, .ref m_isFit, .ref m_cornerThen, .long 0, .ref m_images, .ref m_imageForce, .ref m_imageX, .ref m_isMade])), (m_said, .inl (K 0, 127, .inl (fun _ => 0)))] := G
  subst hp
  refine lv_aload_n E.1 E.2.1 dL_law_959 rfl (lv_at hl 1 rfl) ?_
  refine lv_aload_n E.1 E.2.1 dL_law_960 rfl (lv_at hl 3 rfl) ?_
  refine lv_iload_n E.1 E.2.1 dL_law_961 rfl (lv_at hl 0 rfl) ?_
  refine lv_iconst (v := 1) E.1 E.2.1 dL_law_962 (by decide) ?_
  refine lv_iadd E.1 E.2.1 dL_law_963 ?_
  refine m_ci 1 (by decide) ?_
  refine va_sld E.1 E.2.1 hX hbl hbA G.2.2 (by unfold vp_in; decide) dL_law_964 ?_
  refine m_ci (xs 1) rfl ?_
  refine m_vi E G hl (r_ring l D K y0 m_tape m_sign m_length m_clause m_clauses m_read m_open m_stack m_word m_said m_goesTo m_hadBy m_wasSaid m_kept m_hasBy m_standsThen m_isFit m_cornerThen m_images m_imageForce m_imageX m_isMade (xs 1)) (wr := []) [0, 1] [] rfl rfl (by decide) (by decide) (by decide) 0 (ci := 11) rfl rfl rfl 1 rfl mw_code_X11_ring mw_ini_11 mw_ml_L_126 mw_inst_X11_ring mw_sel_X11_ring hd_X11_ring ⟨by decide, by decide⟩ rfl (Nat.le_of_ble_eq_true rfl) ⟨by decide, by decide⟩ dL_law_965 (fun r_4 u_3 H locs hp G => ?_)
  have G : mG D A s H locs [] := G
  subst hp
  refine lv_icmp_eq (tgt := 1250) E.1 E.2.1 dL_law_968 (by decide) (fun _ => ?_) (fun h => absurd (by decide) h)
  exact law_tail l E hr hX hbl hbA hge G.2.2 (lv_sub hl [3, 0] rfl)
set_option maxHeartbeats 4000000 in
set_option maxRecDepth 100000 in
theorem law_pence {p : Program} {e : Env} {s : State} {m : MethodId} {below : List Frame} {meth : Method} {c : Code} (l : Launch) {b : Nat} {xs : Nat → Int32} {D : va_G} {K : Nat → ClassId} {A : Nat → Prop} (h0 : Nat) (tp : Nat) (tr : Nat) (rr : Nat) (dr : Nat) (rs : Nat) (nr : Nat) (nw : Nat) (im : Nat) (ac : Nat) (co : Nat) (al : Nat) (ta : Nat) (ma : Nat) (ga : Nat) (og : Nat) (pl : Nat) (sa : Nat) (no : Nat) (j0 : Nat) (j1 : Nat) (j2 : Nat) (j3 : Nat) (j4 : Nat) (j5 : Nat) (y0 : Nat) (m_tape : Nat) (m_sign : Nat) (m_length : Nat) (m_clause : Nat) (m_clauses : Nat) (m_read : Nat) (m_open : Nat) (m_stack : Nat) (m_word : Nat) (m_said : Nat) (m_goesTo : Nat) (m_hadBy : Nat) (m_wasSaid : Nat) (m_kept : Nat) (m_hasBy : Nat) (m_standsThen : Nat) (m_isFit : Nat) (m_cornerThen : Nat) (m_images : Nat) (m_imageForce : Nat) (m_imageX : Nat) (m_isMade : Nat) (E : mE p s m meth c code #[Value.ref b] 4 RL D K A) (hr : meth.sig.returnType = ret) (hX : va_X b 6 xs s s.heap) (hbl : b < s.heap.size) (hbA : ¬ A b) (hge : ∀ q : Nat, A q → s.heap.size ≤ q) {H : Heap} {locs : List Loc} {ls : Array Slot} (G : mG D A s H locs [(h0, .inr (10, [.ref tp, .ref tr, .ref rr, .ref dr, .ref rs, .int 0, .ref nr, .ref nw, .ref im, .int 0, .ref ac, .ref co, .ref al, .ref ta, .ref ma, .ref ga, .ref og])), (nw, .inr (2, [.ref pl, .ref sa, .ref no, .int (-1), .int 0])), (pl, .inr (8, [.int 0, .int 0, .int 0, .int 0, .ref j0, .ref j1, .ref j2, .ref j3, .ref j4, .ref j5])), (y0, .inr (11, [.ref m_tape, .int 0, .int 0, .ref m_sign, .ref m_length, .ref m_clause, .ref m_clauses, .ref m_read, .int 0, .int 0, .int 0, .int 0, .int 0, .int 0, .int 0, .ref m_open, .int 0, .ref m_stack, .int 0, .ref m_word, .ref m_said, .int (-1), .int 0, .ref m_goesTo, .ref m_hadBy, .ref m_wasSaid, .int 0, .ref m_kept, .ref m_hasBy, .ref m_standsThen, .ref m_isFit, .ref m_cornerThen, .long 0, .ref m_images, .ref m_imageForce, .ref m_imageX, .ref m_isMade])), (m_said, .inl (K 0, 127, .inl (fun _ => 0)))]) (hl : lv_has ls 4 [(3, .int 0), (2, .ref y0), (1, .ref h0), (0, .ref b)]) : W p l e room_1 s m #[Value.ref b] below meth c H locs 600000 7302250 (lw_Z below #[Value.ref b] s) (F0 m 973 ls []) := by
  refine lv_aload_n E.1 E.2.1 dL_law_973 rfl (lv_at hl 2 rfl) ?_
  refine lv_aload_n E.1 E.2.1 dL_law_974 rfl (lv_at hl 3 rfl) ?_
  refine lv_iload_n E.1 E.2.1 dL_law_975 rfl (lv_at hl 0 rfl) ?_
  refine lv_iconst (v := 1) E.1 E.2.1 dL_law_976 (by decide) ?_
  refine lv_iadd E.1 E.2.1 dL_law_977 ?_
  refine m_ci 1 (by decide) ?_
  refine va_sld E.1 E.2.1 hX hbl hbA G.2.2 (by unfold vp_in; decide) dL_law_978 ?_
  refine m_ci (xs 1) rfl ?_
  refine lv_aload_n E.1 E.2.1 dL_law_979 rfl (lv_at hl 3 rfl) ?_
  refine lv_iload_n E.1 E.2.1 dL_law_980 rfl (lv_at hl 0 rfl) ?_
  refine lv_iconst (v := 2) E.1 E.2.1 dL_law_981 (by decide) ?_
  refine lv_iadd E.1 E.2.1 dL_law_982 ?_
  refine m_ci 2 (by decide) ?_
  refine va_sld E.1 E.2.1 hX hbl hbA G.2.2 (by unfold vp_in; decide) dL_law_983 ?_
  refine m_ci (xs 2) rfl ?_
  refine m_vi E G hl (k_pence l D K h0 tp tr rr dr rs nr nw im ac co al ta ma ga og pl sa no j0 j1 j2 j3 j4 j5 (xs 1) (xs 2)) (wr := [(y0, .inr (11, [.ref m_tape, .int 0, .int 0, .ref m_sign, .ref m_length, .ref m_clause, .ref m_clauses, .ref m_read, .int 0, .int 0, .int 0, .int 0, .int 0, .int 0, .int 0, .ref m_open, .int 0, .ref m_stack, .int 0, .ref m_word, .ref m_said, .int (-1), .int 0, .ref m_goesTo, .ref m_hadBy, .ref m_wasSaid, .int 0, .ref m_kept, .ref m_hasBy, .ref m_standsThen, .ref m_isFit, .ref m_cornerThen, .long 0, .ref m_images, .ref m_imageForce, .ref m_imageX, .ref m_isMade])), (m_said, .inl (K 0, 127, .inl (fun _ => 0)))]) [0, 1, 2] [3, 4] rfl rfl (by decide) (by decide) (by decide) 0 (ci := 10) rfl rfl rfl 2 rfl mw_code_X10_pence mw_ini_10 mw_ml_L_127 mw_inst_X10_pence mw_sel_X10_pence hd_X10_pence ⟨by decide, by decide⟩ rfl (Nat.le_of_ble_eq_true rfl) ⟨by decide, by decide⟩ dL_law_984 (fun r_2 u_1 H locs hp G => ?_)
  have G : mG D A s H locs [(y0, .inr (11, [.ref m_tape, .int 0, .int 0, .ref m_sign, .ref m_length, .ref m_clause, .ref m_clauses, .ref m_read, .int 0, .int 0, .int 0, .int 0, .int 0, .int 0, .int 0, .ref m_open, .int 0, .ref m_stack, .int 0, .ref m_word, .ref m_said, .int (-1), .int 0, .ref m_goesTo, .ref m_hadBy, .ref m_wasSaid, .int 0, .ref m_kept, .ref m_hasBy, .ref m_standsThen, .ref m_isFit, .ref m_cornerThen, .long 0, .ref m_images, .ref m_imageForce, .ref m_imageX, .ref m_isMade])), (m_said, .inl (K 0, 127, .inl (fun _ => 0)))] := G
  subst hp
  refine lv_aload_n E.1 E.2.1 dL_law_987 rfl (lv_at hl 1 rfl) ?_
  refine lv_aload_n E.1 E.2.1 dL_law_988 rfl (lv_at hl 3 rfl) ?_
  refine lv_iload_n E.1 E.2.1 dL_law_989 rfl (lv_at hl 0 rfl) ?_
  refine lv_iconst (v := 1) E.1 E.2.1 dL_law_990 (by decide) ?_
  refine lv_iadd E.1 E.2.1 dL_law_991 ?_
  refine m_ci 1 (by decide) ?_
  refine va_sld E.1 E.2.1 hX hbl hbA G.2.2 (by unfold vp_in; decide) dL_law_992 ?_
  refine m_ci (xs 1) rfl ?_
  refine lv_aload_n E.1 E.2.1 dL_law_993 rfl (lv_at hl 3 rfl) ?_
  refine lv_iload_n E.1 E.2.1 dL_law_994 rfl (lv_at hl 0 rfl) ?_
  refine lv_iconst (v := 2) E.1 E.2.1 dL_law_995 (by decide) ?_
  refine lv_iadd E.1 E.2.1 dL_law_996 ?_
  refine m_ci 2 (by decide) ?_
  refine va_sld E.1 E.2.1 hX hbl hbA G.2.2 (by unfold vp_in; decide) dL_law_997 ?_
  refine m_ci (xs 2) rfl ?_
  refine m_vi E G hl (r_pence l D K y0 m_tape m_sign m_length m_clause m_clauses m_read m_open m_stack m_word m_said m_goesTo m_hadBy m_wasSaid m_kept m_hasBy m_standsThen m_isFit m_cornerThen m_images m_imageForce m_imageX m_isMade (xs 1) (xs 2)) (wr := []) [0, 1] [] rfl rfl (by decide) (by decide) (by decide) 0 (ci := 11) rfl rfl rfl 2 rfl mw_code_X11_pence mw_ini_11 mw_ml_L_130 mw_inst_X11_pence mw_sel_X11_pence hd_X11_pence ⟨by decide, by decide⟩ rfl (Nat.le_of_ble_eq_true rfl) ⟨by decide, by decide⟩ dL_law_998 (fun r_4 u_3 H locs hp G => ?_)
  have G : mG D A s H locs [] := G
  subst hp
  refine lv_icmp_eq (tgt := 1250) E.1 E.2.1 dL_law_1001 (by decide) (fun _ => ?_) (fun h => absurd (by decide) h)
  exact law_tail l E hr hX hbl hbA hge G.2.2 (lv_sub hl [3, 0] rfl)
set_option maxHeartbeats 4000000 in
set_option maxRecDepth 100000 in
theorem law_note {p : Program} {e : Env} {s : State} {m : MethodId} {below : List Frame} {meth : Method} {c : Code} (l : Launch) {b : Nat} {xs : Nat → Int32} {D : va_G} {K : Nat → ClassId} {A : Nat → Prop} (h0 : Nat) (tp : Nat) (tr : Nat) (rr : Nat) (dr : Nat) (rs : Nat) (nr : Nat) (nw : Nat) (im : Nat) (ac : Nat) (co : Nat) (al : Nat) (ta : Nat) (ma : Nat) (ga : Nat) (og : Nat) (pl : Nat) (sa : Nat) (no : Nat) (j0 : Nat) (j1 : Nat) (j2 : Nat) (j3 : Nat) (j4 : Nat) (j5 : Nat) (n0 : Nat) (n1 : Nat) (n2 : Nat) (y0 : Nat) (m_tape : Nat) (m_sign : Nat) (m_length : Nat) (m_clause : Nat) (m_clauses : Nat) (m_read : Nat) (m_open : Nat) (m_stack : Nat) (m_word : Nat) (m_said : Nat) (m_goesTo : Nat) (m_hadBy : Nat) (m_wasSaid : Nat) (m_kept : Nat) (m_hasBy : Nat) (m_standsThen : Nat) (m_isFit : Nat) (m_cornerThen : Nat) (m_images : Nat) (m_imageForce : Nat) (m_imageX : Nat) (m_isMade : Nat) (E : mE p s m meth c code #[Value.ref b] 4 RL D K A) (hr : meth.sig.returnType = ret) (hX : va_X b 6 xs s s.heap) (hbl : b < s.heap.size) (hbA : ¬ A b) (hge : ∀ q : Nat, A q → s.heap.size ≤ q) {H : Heap} {locs : List Loc} {ls : Array Slot} (G : mG D A s H locs [(h0, .inr (10, [.ref tp, .ref tr, .ref rr, .ref dr, .ref rs, .int 0, .ref nr, .ref nw, .ref im, .int 0, .ref ac, .ref co, .ref al, .ref ta, .ref ma, .ref ga, .ref og])), (nw, .inr (2, [.ref pl, .ref sa, .ref no, .int (-1), .int 0])), (pl, .inr (8, [.int 0, .int 0, .int 0, .int 0, .ref j0, .ref j1, .ref j2, .ref j3, .ref j4, .ref j5])), (no, .inr (3, [.int 0, .ref n0, .ref n1, .ref n2])), (y0, .inr (11, [.ref m_tape, .int 0, .int 0, .ref m_sign, .ref m_length, .ref m_clause, .ref m_clauses, .ref m_read, .int 0, .int 0, .int 0, .int 0, .int 0, .int 0, .int 0, .ref m_open, .int 0, .ref m_stack, .int 0, .ref m_word, .ref m_said, .int (-1), .int 0, .ref m_goesTo, .ref m_hadBy, .ref m_wasSaid, .int 0, .ref m_kept, .ref m_hasBy, .ref m_standsThen, .ref m_isFit, .ref m_cornerThen, .long 0, .ref m_images, .ref m_imageForce, .ref m_imageX, .ref m_isMade])), (m_said, .inl (K 0, 127, .inl (fun _ => 0)))]) (hl : lv_has ls 4 [(3, .int 0), (2, .ref y0), (1, .ref h0), (0, .ref b)]) : W p l e room_1 s m #[Value.ref b] below meth c H locs 600000 7302250 (lw_Z below #[Value.ref b] s) (F0 m 1006 ls []) := by
  refine lv_aload_n E.1 E.2.1 dL_law_1006 rfl (lv_at hl 2 rfl) ?_
  refine lv_aload_n E.1 E.2.1 dL_law_1007 rfl (lv_at hl 3 rfl) ?_
  refine lv_iload_n E.1 E.2.1 dL_law_1008 rfl (lv_at hl 0 rfl) ?_
  refine lv_iconst (v := 1) E.1 E.2.1 dL_law_1009 (by decide) ?_
  refine lv_iadd E.1 E.2.1 dL_law_1010 ?_
  refine m_ci 1 (by decide) ?_
  refine va_sld E.1 E.2.1 hX hbl hbA G.2.2 (by unfold vp_in; decide) dL_law_1011 ?_
  refine m_ci (xs 1) rfl ?_
  refine lv_aload_n E.1 E.2.1 dL_law_1012 rfl (lv_at hl 3 rfl) ?_
  refine lv_iload_n E.1 E.2.1 dL_law_1013 rfl (lv_at hl 0 rfl) ?_
  refine lv_iconst (v := 2) E.1 E.2.1 dL_law_1014 (by decide) ?_
  refine lv_iadd E.1 E.2.1 dL_law_1015 ?_
  refine m_ci 2 (by decide) ?_
  refine va_sld E.1 E.2.1 hX hbl hbA G.2.2 (by unfold vp_in; decide) dL_law_1016 ?_
  refine m_ci (xs 2) rfl ?_
  refine lv_aload_n E.1 E.2.1 dL_law_1017 rfl (lv_at hl 3 rfl) ?_
  refine lv_iload_n E.1 E.2.1 dL_law_1018 rfl (lv_at hl 0 rfl) ?_
  refine lv_iconst (v := 3) E.1 E.2.1 dL_law_1019 (by decide) ?_
  refine lv_iadd E.1 E.2.1 dL_law_1020 ?_
  refine m_ci 3 (by decide) ?_
  refine va_sld E.1 E.2.1 hX hbl hbA G.2.2 (by unfold vp_in; decide) dL_law_1021 ?_
  refine m_ci (xs 3) rfl ?_
  refine m_vi E G hl (k_note l D K h0 tp tr rr dr rs nr nw im ac co al ta ma ga og pl sa no j0 j1 j2 j3 j4 j5 n0 n1 n2 (xs 1) (xs 2) (xs 3)) (wr := [(y0, .inr (11, [.ref m_tape, .int 0, .int 0, .ref m_sign, .ref m_length, .ref m_clause, .ref m_clauses, .ref m_read, .int 0, .int 0, .int 0, .int 0, .int 0, .int 0, .int 0, .ref m_open, .int 0, .ref m_stack, .int 0, .ref m_word, .ref m_said, .int (-1), .int 0, .ref m_goesTo, .ref m_hadBy, .ref m_wasSaid, .int 0, .ref m_kept, .ref m_hasBy, .ref m_standsThen, .ref m_isFit, .ref m_cornerThen, .long 0, .ref m_images, .ref m_imageForce, .ref m_imageX, .ref m_isMade])), (m_said, .inl (K 0, 127, .inl (fun _ => 0)))]) [0, 1, 2, 3] [4, 5] rfl rfl (by decide) (by decide) (by decide) 0 (ci := 10) rfl rfl rfl 3 rfl mw_code_X10_note mw_ini_10 mw_ml_L_131 mw_inst_X10_note mw_sel_X10_note hd_X10_note ⟨by decide, by decide⟩ rfl (Nat.le_of_ble_eq_true rfl) ⟨by decide, by decide⟩ dL_law_1022 (fun r_2 u_1 H locs hp G => ?_)
  have G : mG D A s H locs [(y0, .inr (11, [.ref m_tape, .int 0, .int 0, .ref m_sign, .ref m_length, .ref m_clause, .ref m_clauses, .ref m_read, .int 0, .int 0, .int 0, .int 0, .int 0, .int 0, .int 0, .ref m_open, .int 0, .ref m_stack, .int 0, .ref m_word, .ref m_said, .int (-1), .int 0, .ref m_goesTo, .ref m_hadBy, .ref m_wasSaid, .int 0, .ref m_kept, .ref m_hasBy, .ref m_standsThen, .ref m_isFit, .ref m_cornerThen, .long 0, .ref m_images, .ref m_imageForce, .ref m_imageX, .ref m_isMade])), (m_said, .inl (K 0, 127, .inl (fun _ => 0)))] := G
  subst hp
  refine lv_aload_n E.1 E.2.1 dL_law_1025 rfl (lv_at hl 1 rfl) ?_
  refine lv_aload_n E.1 E.2.1 dL_law_1026 rfl (lv_at hl 3 rfl) ?_
  refine lv_iload_n E.1 E.2.1 dL_law_1027 rfl (lv_at hl 0 rfl) ?_
  refine lv_iconst (v := 1) E.1 E.2.1 dL_law_1028 (by decide) ?_
  refine lv_iadd E.1 E.2.1 dL_law_1029 ?_
  refine m_ci 1 (by decide) ?_
  refine va_sld E.1 E.2.1 hX hbl hbA G.2.2 (by unfold vp_in; decide) dL_law_1030 ?_
  refine m_ci (xs 1) rfl ?_
  refine lv_aload_n E.1 E.2.1 dL_law_1031 rfl (lv_at hl 3 rfl) ?_
  refine lv_iload_n E.1 E.2.1 dL_law_1032 rfl (lv_at hl 0 rfl) ?_
  refine lv_iconst (v := 2) E.1 E.2.1 dL_law_1033 (by decide) ?_
  refine lv_iadd E.1 E.2.1 dL_law_1034 ?_
  refine m_ci 2 (by decide) ?_
  refine va_sld E.1 E.2.1 hX hbl hbA G.2.2 (by unfold vp_in; decide) dL_law_1035 ?_
  refine m_ci (xs 2) rfl ?_
  refine lv_aload_n E.1 E.2.1 dL_law_1036 rfl (lv_at hl 3 rfl) ?_
  refine lv_iload_n E.1 E.2.1 dL_law_1037 rfl (lv_at hl 0 rfl) ?_
  refine lv_iconst (v := 3) E.1 E.2.1 dL_law_1038 (by decide) ?_
  refine lv_iadd E.1 E.2.1 dL_law_1039 ?_
  refine m_ci 3 (by decide) ?_
  refine va_sld E.1 E.2.1 hX hbl hbA G.2.2 (by unfold vp_in; decide) dL_law_1040 ?_
  refine m_ci (xs 3) rfl ?_
  refine m_vi E G hl (r_note l D K y0 m_tape m_sign m_length m_clause m_clauses m_read m_open m_stack m_word m_said m_goesTo m_hadBy m_wasSaid m_kept m_hasBy m_standsThen m_isFit m_cornerThen m_images m_imageForce m_imageX m_isMade (xs 1) (xs 2) (xs 3)) (wr := []) [0, 1] [] rfl rfl (by decide) (by decide) (by decide) 0 (ci := 11) rfl rfl rfl 3 rfl mw_code_X11_note mw_ini_11 mw_ml_L_134 mw_inst_X11_note mw_sel_X11_note hd_X11_note ⟨by decide, by decide⟩ rfl (Nat.le_of_ble_eq_true rfl) ⟨by decide, by decide⟩ dL_law_1041 (fun r_4 u_3 H locs hp G => ?_)
  have G : mG D A s H locs [] := G
  subst hp
  refine lv_icmp_eq (tgt := 1250) E.1 E.2.1 dL_law_1044 (by decide) (fun _ => ?_) (fun h => absurd rfl h)
  exact law_tail l E hr hX hbl hbA hge G.2.2 (lv_sub hl [3, 0] rfl)
set_option maxHeartbeats 4000000 in
set_option maxRecDepth 100000 in
theorem law_ruled {p : Program} {e : Env} {s : State} {m : MethodId} {below : List Frame} {meth : Method} {c : Code} (l : Launch) {b : Nat} {xs : Nat → Int32} {D : va_G} {K : Nat → ClassId} {A : Nat → Prop} (h0 : Nat) (tp : Nat) (tr : Nat) (rr : Nat) (dr : Nat) (rs : Nat) (nr : Nat) (nw : Nat) (im : Nat) (ac : Nat) (co : Nat) (al : Nat) (ta : Nat) (ma : Nat) (ga : Nat) (og : Nat) (pl : Nat) (sa : Nat) (no : Nat) (j0 : Nat) (j1 : Nat) (j2 : Nat) (j3 : Nat) (j4 : Nat) (j5 : Nat) (y0 : Nat) (m_tape : Nat) (m_sign : Nat) (m_length : Nat) (m_clause : Nat) (m_clauses : Nat) (m_read : Nat) (m_open : Nat) (m_stack : Nat) (m_word : Nat) (m_said : Nat) (m_goesTo : Nat) (m_hadBy : Nat) (m_wasSaid : Nat) (m_kept : Nat) (m_hasBy : Nat) (m_standsThen : Nat) (m_isFit : Nat) (m_cornerThen : Nat) (m_images : Nat) (m_imageForce : Nat) (m_imageX : Nat) (m_isMade : Nat) (E : mE p s m meth c code #[Value.ref b] 4 RL D K A) (hr : meth.sig.returnType = ret) (hX : va_X b 6 xs s s.heap) (hbl : b < s.heap.size) (hbA : ¬ A b) (hge : ∀ q : Nat, A q → s.heap.size ≤ q) {H : Heap} {locs : List Loc} {ls : Array Slot} (G : mG D A s H locs [(h0, .inr (10, [.ref tp, .ref tr, .ref rr, .ref dr, .ref rs, .int 0, .ref nr, .ref nw, .ref im, .int 0, .ref ac, .ref co, .ref al, .ref ta, .ref ma, .ref ga, .ref og])), (nw, .inr (2, [.ref pl, .ref sa, .ref no, .int (-1), .int 0])), (pl, .inr (8, [.int 0, .int 0, .int 0, .int 0, .ref j0, .ref j1, .ref j2, .ref j3, .ref j4, .ref j5])), (y0, .inr (11, [.ref m_tape, .int 0, .int 0, .ref m_sign, .ref m_length, .ref m_clause, .ref m_clauses, .ref m_read, .int 0, .int 0, .int 0, .int 0, .int 0, .int 0, .int 0, .ref m_open, .int 0, .ref m_stack, .int 0, .ref m_word, .ref m_said, .int (-1), .int 0, .ref m_goesTo, .ref m_hadBy, .ref m_wasSaid, .int 0, .ref m_kept, .ref m_hasBy, .ref m_standsThen, .ref m_isFit, .ref m_cornerThen, .long 0, .ref m_images, .ref m_imageForce, .ref m_imageX, .ref m_isMade])), (m_said, .inl (K 0, 127, .inl (fun _ => 0)))]) (hl : lv_has ls 4 [(3, .int 0), (2, .ref y0), (1, .ref h0), (0, .ref b)]) : W p l e room_1 s m #[Value.ref b] below meth c H locs 600000 7302250 (lw_Z below #[Value.ref b] s) (F0 m 1049 ls []) := by
  refine lv_aload_n E.1 E.2.1 dL_law_1049 rfl (lv_at hl 2 rfl) ?_
  refine lv_aload_n E.1 E.2.1 dL_law_1050 rfl (lv_at hl 3 rfl) ?_
  refine lv_iload_n E.1 E.2.1 dL_law_1051 rfl (lv_at hl 0 rfl) ?_
  refine lv_iconst (v := 1) E.1 E.2.1 dL_law_1052 (by decide) ?_
  refine lv_iadd E.1 E.2.1 dL_law_1053 ?_
  refine m_ci 1 (by decide) ?_
  refine va_sld E.1 E.2.1 hX hbl hbA G.2.2 (by unfold vp_in; decide) dL_law_1054 ?_
  refine m_ci (xs 1) rfl ?_
  refine m_vi E G hl (k_ruled l D K h0 tp tr rr dr rs nr nw im ac co al ta ma ga og pl sa no j0 j1 j2 j3 j4 j5 (xs 1)) (wr := [(y0, .inr (11, [.ref m_tape, .int 0, .int 0, .ref m_sign, .ref m_length, .ref m_clause, .ref m_clauses, .ref m_read, .int 0, .int 0, .int 0, .int 0, .int 0, .int 0, .int 0, .ref m_open, .int 0, .ref m_stack, .int 0, .ref m_word, .ref m_said, .int (-1), .int 0, .ref m_goesTo, .ref m_hadBy, .ref m_wasSaid, .int 0, .ref m_kept, .ref m_hasBy, .ref m_standsThen, .ref m_isFit, .ref m_cornerThen, .long 0, .ref m_images, .ref m_imageForce, .ref m_imageX, .ref m_isMade])), (m_said, .inl (K 0, 127, .inl (fun _ => 0)))]) [0, 1, 2] [3, 4] rfl rfl (by decide) (by decide) (by decide) 0 (ci := 10) rfl rfl rfl 1 rfl mw_code_X10_ruled mw_ini_10 mw_ml_L_135 mw_inst_X10_ruled mw_sel_X10_ruled hd_X10_ruled ⟨by decide, by decide⟩ rfl (Nat.le_of_ble_eq_true rfl) ⟨by decide, by decide⟩ dL_law_1055 (fun r_2 u_1 H locs hp G => ?_)
  have G : mG D A s H locs [(y0, .inr (11, [.ref m_tape, .int 0, .int 0, .ref m_sign, .ref m_length, .ref m_clause, .ref m_clauses, .ref m_read, .int 0, .int 0, .int 0, .int 0, .int 0, .int 0, .int 0, .ref m_open, .int 0, .ref m_stack, .int 0, .ref m_word, .ref m_said, .int (-1), .int 0, .ref m_goesTo, .ref m_hadBy, .ref m_wasSaid, .int 0, .ref m_kept, .ref m_hasBy, .ref m_standsThen, .ref m_isFit, .ref m_cornerThen, .long 0, .ref m_images, .ref m_imageForce, .ref m_imageX, .ref m_isMade])), (m_said, .inl (K 0, 127, .inl (fun _ => 0)))] := G
  subst hp
  refine lv_aload_n E.1 E.2.1 dL_law_1058 rfl (lv_at hl 1 rfl) ?_
  refine lv_aload_n E.1 E.2.1 dL_law_1059 rfl (lv_at hl 3 rfl) ?_
  refine lv_iload_n E.1 E.2.1 dL_law_1060 rfl (lv_at hl 0 rfl) ?_
  refine lv_iconst (v := 1) E.1 E.2.1 dL_law_1061 (by decide) ?_
  refine lv_iadd E.1 E.2.1 dL_law_1062 ?_
  refine m_ci 1 (by decide) ?_
  refine va_sld E.1 E.2.1 hX hbl hbA G.2.2 (by unfold vp_in; decide) dL_law_1063 ?_
  refine m_ci (xs 1) rfl ?_
  refine m_vi E G hl (r_ruled l D K y0 m_tape m_sign m_length m_clause m_clauses m_read m_open m_stack m_word m_said m_goesTo m_hadBy m_wasSaid m_kept m_hasBy m_standsThen m_isFit m_cornerThen m_images m_imageForce m_imageX m_isMade (xs 1)) (wr := []) [0, 1] [] rfl rfl (by decide) (by decide) (by decide) 0 (ci := 11) rfl rfl rfl 1 rfl mw_code_X11_ruled mw_ini_11 mw_ml_L_138 mw_inst_X11_ruled mw_sel_X11_ruled hd_X11_ruled ⟨by decide, by decide⟩ rfl (Nat.le_of_ble_eq_true rfl) ⟨by decide, by decide⟩ dL_law_1064 (fun r_4 u_3 H locs hp G => ?_)
  have G : mG D A s H locs [] := G
  subst hp
  refine lv_icmp_eq (tgt := 1250) E.1 E.2.1 dL_law_1067 (by decide) (fun _ => ?_) (fun h => absurd (by decide) h)
  exact law_tail l E hr hX hbl hbA hge G.2.2 (lv_sub hl [3, 0] rfl)
set_option maxHeartbeats 4000000 in
set_option maxRecDepth 100000 in
theorem law_look {p : Program} {e : Env} {s : State} {m : MethodId} {below : List Frame} {meth : Method} {c : Code} (l : Launch) {b : Nat} {xs : Nat → Int32} {D : va_G} {K : Nat → ClassId} {A : Nat → Prop} (h0 : Nat) (tp : Nat) (tr : Nat) (rr : Nat) (dr : Nat) (rs : Nat) (nr : Nat) (nw : Nat) (im : Nat) (ac : Nat) (co : Nat) (al : Nat) (ta : Nat) (ma : Nat) (ga : Nat) (og : Nat) (pl : Nat) (sa : Nat) (no : Nat) (j0 : Nat) (j1 : Nat) (j2 : Nat) (j3 : Nat) (j4 : Nat) (j5 : Nat) (y0 : Nat) (m_tape : Nat) (m_sign : Nat) (m_length : Nat) (m_clause : Nat) (m_clauses : Nat) (m_read : Nat) (m_open : Nat) (m_stack : Nat) (m_word : Nat) (m_said : Nat) (m_goesTo : Nat) (m_hadBy : Nat) (m_wasSaid : Nat) (m_kept : Nat) (m_hasBy : Nat) (m_standsThen : Nat) (m_isFit : Nat) (m_cornerThen : Nat) (m_images : Nat) (m_imageForce : Nat) (m_imageX : Nat) (m_isMade : Nat) (E : mE p s m meth c code #[Value.ref b] 4 RL D K A) (hr : meth.sig.returnType = ret) (hX : va_X b 6 xs s s.heap) (hbl : b < s.heap.size) (hbA : ¬ A b) (hge : ∀ q : Nat, A q → s.heap.size ≤ q) {H : Heap} {locs : List Loc} {ls : Array Slot} (G : mG D A s H locs [(h0, .inr (10, [.ref tp, .ref tr, .ref rr, .ref dr, .ref rs, .int 0, .ref nr, .ref nw, .ref im, .int 0, .ref ac, .ref co, .ref al, .ref ta, .ref ma, .ref ga, .ref og])), (nw, .inr (2, [.ref pl, .ref sa, .ref no, .int (-1), .int 0])), (pl, .inr (8, [.int 0, .int 0, .int 0, .int 0, .ref j0, .ref j1, .ref j2, .ref j3, .ref j4, .ref j5])), (y0, .inr (11, [.ref m_tape, .int 0, .int 0, .ref m_sign, .ref m_length, .ref m_clause, .ref m_clauses, .ref m_read, .int 0, .int 0, .int 0, .int 0, .int 0, .int 0, .int 0, .ref m_open, .int 0, .ref m_stack, .int 0, .ref m_word, .ref m_said, .int (-1), .int 0, .ref m_goesTo, .ref m_hadBy, .ref m_wasSaid, .int 0, .ref m_kept, .ref m_hasBy, .ref m_standsThen, .ref m_isFit, .ref m_cornerThen, .long 0, .ref m_images, .ref m_imageForce, .ref m_imageX, .ref m_isMade])), (m_said, .inl (K 0, 127, .inl (fun _ => 0)))]) (hl : lv_has ls 4 [(3, .int 0), (2, .ref y0), (1, .ref h0), (0, .ref b)]) : W p l e room_1 s m #[Value.ref b] below meth c H locs 600000 7302250 (lw_Z below #[Value.ref b] s) (F0 m 1072 ls []) := by
  refine lv_aload_n E.1 E.2.1 dL_law_1072 rfl (lv_at hl 2 rfl) ?_
  refine lv_aload_n E.1 E.2.1 dL_law_1073 rfl (lv_at hl 3 rfl) ?_
  refine lv_iload_n E.1 E.2.1 dL_law_1074 rfl (lv_at hl 0 rfl) ?_
  refine lv_iconst (v := 1) E.1 E.2.1 dL_law_1075 (by decide) ?_
  refine lv_iadd E.1 E.2.1 dL_law_1076 ?_
  refine m_ci 1 (by decide) ?_
  refine va_sld E.1 E.2.1 hX hbl hbA G.2.2 (by unfold vp_in; decide) dL_law_1077 ?_
  refine m_ci (xs 1) rfl ?_
  refine lv_aload_n E.1 E.2.1 dL_law_1078 rfl (lv_at hl 3 rfl) ?_
  refine lv_iload_n E.1 E.2.1 dL_law_1079 rfl (lv_at hl 0 rfl) ?_
  refine lv_iconst (v := 2) E.1 E.2.1 dL_law_1080 (by decide) ?_
  refine lv_iadd E.1 E.2.1 dL_law_1081 ?_
  refine m_ci 2 (by decide) ?_
  refine va_sld E.1 E.2.1 hX hbl hbA G.2.2 (by unfold vp_in; decide) dL_law_1082 ?_
  refine m_ci (xs 2) rfl ?_
  refine m_vi E G hl (k_look l D K h0 tp tr rr dr rs nr nw im ac co al ta ma ga og pl sa no j0 j1 j2 j3 j4 j5 (xs 1) (xs 2)) (wr := [(y0, .inr (11, [.ref m_tape, .int 0, .int 0, .ref m_sign, .ref m_length, .ref m_clause, .ref m_clauses, .ref m_read, .int 0, .int 0, .int 0, .int 0, .int 0, .int 0, .int 0, .ref m_open, .int 0, .ref m_stack, .int 0, .ref m_word, .ref m_said, .int (-1), .int 0, .ref m_goesTo, .ref m_hadBy, .ref m_wasSaid, .int 0, .ref m_kept, .ref m_hasBy, .ref m_standsThen, .ref m_isFit, .ref m_cornerThen, .long 0, .ref m_images, .ref m_imageForce, .ref m_imageX, .ref m_isMade])), (m_said, .inl (K 0, 127, .inl (fun _ => 0)))]) [0, 1, 2] [3, 4] rfl rfl (by decide) (by decide) (by decide) 0 (ci := 10) rfl rfl rfl 2 rfl mw_code_X10_look mw_ini_10 mw_ml_L_139 mw_inst_X10_look mw_sel_X10_look hd_X10_look ⟨by decide, by decide⟩ rfl (Nat.le_of_ble_eq_true rfl) ⟨by decide, by decide⟩ dL_law_1083 (fun r_2 u_1 H locs hp G => ?_)
  have G : mG D A s H locs [(y0, .inr (11, [.ref m_tape, .int 0, .int 0, .ref m_sign, .ref m_length, .ref m_clause, .ref m_clauses, .ref m_read, .int 0, .int 0, .int 0, .int 0, .int 0, .int 0, .int 0, .ref m_open, .int 0, .ref m_stack, .int 0, .ref m_word, .ref m_said, .int (-1), .int 0, .ref m_goesTo, .ref m_hadBy, .ref m_wasSaid, .int 0, .ref m_kept, .ref m_hasBy, .ref m_standsThen, .ref m_isFit, .ref m_cornerThen, .long 0, .ref m_images, .ref m_imageForce, .ref m_imageX, .ref m_isMade])), (m_said, .inl (K 0, 127, .inl (fun _ => 0)))] := G
  subst hp
  refine lv_aload_n E.1 E.2.1 dL_law_1086 rfl (lv_at hl 1 rfl) ?_
  refine lv_aload_n E.1 E.2.1 dL_law_1087 rfl (lv_at hl 3 rfl) ?_
  refine lv_iload_n E.1 E.2.1 dL_law_1088 rfl (lv_at hl 0 rfl) ?_
  refine lv_iconst (v := 1) E.1 E.2.1 dL_law_1089 (by decide) ?_
  refine lv_iadd E.1 E.2.1 dL_law_1090 ?_
  refine m_ci 1 (by decide) ?_
  refine va_sld E.1 E.2.1 hX hbl hbA G.2.2 (by unfold vp_in; decide) dL_law_1091 ?_
  refine m_ci (xs 1) rfl ?_
  refine lv_aload_n E.1 E.2.1 dL_law_1092 rfl (lv_at hl 3 rfl) ?_
  refine lv_iload_n E.1 E.2.1 dL_law_1093 rfl (lv_at hl 0 rfl) ?_
  refine lv_iconst (v := 2) E.1 E.2.1 dL_law_1094 (by decide) ?_
  refine lv_iadd E.1 E.2.1 dL_law_1095 ?_
  refine m_ci 2 (by decide) ?_
  refine va_sld E.1 E.2.1 hX hbl hbA G.2.2 (by unfold vp_in; decide) dL_law_1096 ?_
  refine m_ci (xs 2) rfl ?_
  refine m_vi E G hl (r_look l D K y0 m_tape m_sign m_length m_clause m_clauses m_read m_open m_stack m_word m_said m_goesTo m_hadBy m_wasSaid m_kept m_hasBy m_standsThen m_isFit m_cornerThen m_images m_imageForce m_imageX m_isMade (xs 1) (xs 2)) (wr := []) [0, 1] [] rfl rfl (by decide) (by decide) (by decide) 0 (ci := 11) rfl rfl rfl 2 rfl mw_code_X11_look mw_ini_11 mw_ml_L_142 mw_inst_X11_look mw_sel_X11_look hd_X11_look ⟨by decide, by decide⟩ rfl (Nat.le_of_ble_eq_true rfl) ⟨by decide, by decide⟩ dL_law_1097 (fun r_4 u_3 H locs hp G => ?_)
  have G : mG D A s H locs [] := G
  subst hp
  refine lv_icmp_eq (tgt := 1250) E.1 E.2.1 dL_law_1100 (by decide) (fun _ => ?_) (fun h => absurd (by decide) h)
  exact law_tail l E hr hX hbl hbA hge G.2.2 (lv_sub hl [3, 0] rfl)
set_option maxHeartbeats 4000000 in
set_option maxRecDepth 100000 in
theorem law_seed {p : Program} {e : Env} {s : State} {m : MethodId} {below : List Frame} {meth : Method} {c : Code} (l : Launch) {b : Nat} {xs : Nat → Int32} {D : va_G} {K : Nat → ClassId} {A : Nat → Prop} (h0 : Nat) (tp : Nat) (tr : Nat) (rr : Nat) (dr : Nat) (rs : Nat) (nr : Nat) (nw : Nat) (im : Nat) (ac : Nat) (co : Nat) (al : Nat) (ta : Nat) (ma : Nat) (ga : Nat) (og : Nat) (pl : Nat) (sa : Nat) (no : Nat) (y0 : Nat) (m_tape : Nat) (m_sign : Nat) (m_length : Nat) (m_clause : Nat) (m_clauses : Nat) (m_read : Nat) (m_open : Nat) (m_stack : Nat) (m_word : Nat) (m_said : Nat) (m_goesTo : Nat) (m_hadBy : Nat) (m_wasSaid : Nat) (m_kept : Nat) (m_hasBy : Nat) (m_standsThen : Nat) (m_isFit : Nat) (m_cornerThen : Nat) (m_images : Nat) (m_imageForce : Nat) (m_imageX : Nat) (m_isMade : Nat) (E : mE p s m meth c code #[Value.ref b] 4 RL D K A) (hr : meth.sig.returnType = ret) (hX : va_X b 6 xs s s.heap) (hbl : b < s.heap.size) (hbA : ¬ A b) (hge : ∀ q : Nat, A q → s.heap.size ≤ q) {H : Heap} {locs : List Loc} {ls : Array Slot} (G : mG D A s H locs [(h0, .inr (10, [.ref tp, .ref tr, .ref rr, .ref dr, .ref rs, .int 0, .ref nr, .ref nw, .ref im, .int 0, .ref ac, .ref co, .ref al, .ref ta, .ref ma, .ref ga, .ref og])), (nw, .inr (2, [.ref pl, .ref sa, .ref no, .int (-1), .int 0])), (y0, .inr (11, [.ref m_tape, .int 0, .int 0, .ref m_sign, .ref m_length, .ref m_clause, .ref m_clauses, .ref m_read, .int 0, .int 0, .int 0, .int 0, .int 0, .int 0, .int 0, .ref m_open, .int 0, .ref m_stack, .int 0, .ref m_word, .ref m_said, .int (-1), .int 0, .ref m_goesTo, .ref m_hadBy, .ref m_wasSaid, .int 0, .ref m_kept, .ref m_hasBy, .ref m_standsThen, .ref m_isFit, .ref m_cornerThen, .long 0, .ref m_images, .ref m_imageForce, .ref m_imageX, .ref m_isMade]))]) (hl : lv_has ls 4 [(3, .int 0), (2, .ref y0), (1, .ref h0), (0, .ref b)]) : W p l e room_1 s m #[Value.ref b] below meth c H locs 600000 7302250 (lw_Z below #[Value.ref b] s) (F0 m 1105 ls []) := by
  refine lv_aload_n E.1 E.2.1 dL_law_1105 rfl (lv_at hl 2 rfl) ?_
  refine lv_aload_n E.1 E.2.1 dL_law_1106 rfl (lv_at hl 3 rfl) ?_
  refine lv_iload_n E.1 E.2.1 dL_law_1107 rfl (lv_at hl 0 rfl) ?_
  refine lv_iconst (v := 1) E.1 E.2.1 dL_law_1108 (by decide) ?_
  refine lv_iadd E.1 E.2.1 dL_law_1109 ?_
  refine m_ci 1 (by decide) ?_
  refine va_sld E.1 E.2.1 hX hbl hbA G.2.2 (by unfold vp_in; decide) dL_law_1110 ?_
  refine m_ci (xs 1) rfl ?_
  refine m_vi E G hl (k_seed l D K h0 tp tr rr dr rs nr nw im ac co al ta ma ga og pl sa no (xs 1)) (wr := [(y0, .inr (11, [.ref m_tape, .int 0, .int 0, .ref m_sign, .ref m_length, .ref m_clause, .ref m_clauses, .ref m_read, .int 0, .int 0, .int 0, .int 0, .int 0, .int 0, .int 0, .ref m_open, .int 0, .ref m_stack, .int 0, .ref m_word, .ref m_said, .int (-1), .int 0, .ref m_goesTo, .ref m_hadBy, .ref m_wasSaid, .int 0, .ref m_kept, .ref m_hasBy, .ref m_standsThen, .ref m_isFit, .ref m_cornerThen, .long 0, .ref m_images, .ref m_imageForce, .ref m_imageX, .ref m_isMade]))]) [0, 1] [2] rfl rfl (by decide) (by decide) (by decide) 0 (ci := 10) rfl rfl rfl 1 rfl mw_code_X10_seed mw_ini_10 mw_ml_L_143 mw_inst_X10_seed mw_sel_X10_seed hd_X10_seed ⟨by decide, by decide⟩ rfl (Nat.le_of_ble_eq_true rfl) ⟨by decide, by decide⟩ dL_law_1111 (fun r_2 u_1 H locs hp G => ?_)
  have G : mG D A s H locs [(y0, .inr (11, [.ref m_tape, .int 0, .int 0, .ref m_sign, .ref m_length, .ref m_clause, .ref m_clauses, .ref m_read, .int 0, .int 0, .int 0, .int 0, .int 0, .int 0, .int 0, .ref m_open, .int 0, .ref m_stack, .int 0, .ref m_word, .ref m_said, .int (-1), .int 0, .ref m_goesTo, .ref m_hadBy, .ref m_wasSaid, .int 0, .ref m_kept, .ref m_hasBy, .ref m_standsThen, .ref m_isFit, .ref m_cornerThen, .long 0, .ref m_images, .ref m_imageForce, .ref m_imageX, .ref m_isMade]))] := G
  subst hp
  refine lv_aload_n E.1 E.2.1 dL_law_1114 rfl (lv_at hl 1 rfl) ?_
  refine lv_aload_n E.1 E.2.1 dL_law_1115 rfl (lv_at hl 3 rfl) ?_
  refine lv_iload_n E.1 E.2.1 dL_law_1116 rfl (lv_at hl 0 rfl) ?_
  refine lv_iconst (v := 1) E.1 E.2.1 dL_law_1117 (by decide) ?_
  refine lv_iadd E.1 E.2.1 dL_law_1118 ?_
  refine m_ci 1 (by decide) ?_
  refine va_sld E.1 E.2.1 hX hbl hbA G.2.2 (by unfold vp_in; decide) dL_law_1119 ?_
  refine m_ci (xs 1) rfl ?_
  refine m_vi E G hl (r_seed l D K y0 m_tape m_sign m_length m_clause m_clauses m_read m_open m_stack m_word m_said m_goesTo m_hadBy m_wasSaid m_kept m_hasBy m_standsThen m_isFit m_cornerThen m_images m_imageForce m_imageX m_isMade (xs 1)) (wr := []) [0] [] rfl rfl (by decide) (by decide) (by decide) 0 (ci := 11) rfl rfl rfl 1 rfl mw_code_X11_seed mw_ini_11 mw_ml_L_146 mw_inst_X11_seed mw_sel_X11_seed hd_X11_seed ⟨by decide, by decide⟩ rfl (Nat.le_of_ble_eq_true rfl) ⟨by decide, by decide⟩ dL_law_1120 (fun r_4 u_3 H locs hp G => ?_)
  have G : mG D A s H locs [] := G
  subst hp
  refine lv_icmp_eq (tgt := 1250) E.1 E.2.1 dL_law_1123 (by decide) (fun _ => ?_) (fun h => absurd rfl h)
  exact law_tail l E hr hX hbl hbA hge G.2.2 (lv_sub hl [3, 0] rfl)
set_option maxHeartbeats 4000000 in
set_option maxRecDepth 100000 in
theorem law_nights {p : Program} {e : Env} {s : State} {m : MethodId} {below : List Frame} {meth : Method} {c : Code} (l : Launch) {b : Nat} {xs : Nat → Int32} {D : va_G} {K : Nat → ClassId} {A : Nat → Prop} (h0 : Nat) (tp : Nat) (tr : Nat) (rr : Nat) (dr : Nat) (rs : Nat) (nr : Nat) (nw : Nat) (im : Nat) (ac : Nat) (co : Nat) (al : Nat) (ta : Nat) (ma : Nat) (ga : Nat) (og : Nat) (pl : Nat) (sa : Nat) (no : Nat) (j0 : Nat) (j1 : Nat) (j2 : Nat) (j3 : Nat) (j4 : Nat) (j5 : Nat) (y0 : Nat) (m_tape : Nat) (m_sign : Nat) (m_length : Nat) (m_clause : Nat) (m_clauses : Nat) (m_read : Nat) (m_open : Nat) (m_stack : Nat) (m_word : Nat) (m_said : Nat) (m_goesTo : Nat) (m_hadBy : Nat) (m_wasSaid : Nat) (m_kept : Nat) (m_hasBy : Nat) (m_standsThen : Nat) (m_isFit : Nat) (m_cornerThen : Nat) (m_images : Nat) (m_imageForce : Nat) (m_imageX : Nat) (m_isMade : Nat) (E : mE p s m meth c code #[Value.ref b] 4 RL D K A) (hr : meth.sig.returnType = ret) (hX : va_X b 6 xs s s.heap) (hbl : b < s.heap.size) (hbA : ¬ A b) (hge : ∀ q : Nat, A q → s.heap.size ≤ q) {H : Heap} {locs : List Loc} {ls : Array Slot} (G : mG D A s H locs [(h0, .inr (10, [.ref tp, .ref tr, .ref rr, .ref dr, .ref rs, .int 0, .ref nr, .ref nw, .ref im, .int 0, .ref ac, .ref co, .ref al, .ref ta, .ref ma, .ref ga, .ref og])), (nw, .inr (2, [.ref pl, .ref sa, .ref no, .int (-1), .int 0])), (pl, .inr (8, [.int 0, .int 0, .int 0, .int 0, .ref j0, .ref j1, .ref j2, .ref j3, .ref j4, .ref j5])), (y0, .inr (11, [.ref m_tape, .int 0, .int 0, .ref m_sign, .ref m_length, .ref m_clause, .ref m_clauses, .ref m_read, .int 0, .int 0, .int 0, .int 0, .int 0, .int 0, .int 0, .ref m_open, .int 0, .ref m_stack, .int 0, .ref m_word, .ref m_said, .int (-1), .int 0, .ref m_goesTo, .ref m_hadBy, .ref m_wasSaid, .int 0, .ref m_kept, .ref m_hasBy, .ref m_standsThen, .ref m_isFit, .ref m_cornerThen, .long 0, .ref m_images, .ref m_imageForce, .ref m_imageX, .ref m_isMade])), (m_said, .inl (K 0, 127, .inl (fun _ => 0)))]) (hl : lv_has ls 4 [(3, .int 0), (2, .ref y0), (1, .ref h0), (0, .ref b)]) : W p l e room_1 s m #[Value.ref b] below meth c H locs 600000 7302250 (lw_Z below #[Value.ref b] s) (F0 m 1128 ls []) := by
  refine lv_aload_n E.1 E.2.1 dL_law_1128 rfl (lv_at hl 2 rfl) ?_
  refine lv_aload_n E.1 E.2.1 dL_law_1129 rfl (lv_at hl 3 rfl) ?_
  refine lv_iload_n E.1 E.2.1 dL_law_1130 rfl (lv_at hl 0 rfl) ?_
  refine lv_iconst (v := 1) E.1 E.2.1 dL_law_1131 (by decide) ?_
  refine lv_iadd E.1 E.2.1 dL_law_1132 ?_
  refine m_ci 1 (by decide) ?_
  refine va_sld E.1 E.2.1 hX hbl hbA G.2.2 (by unfold vp_in; decide) dL_law_1133 ?_
  refine m_ci (xs 1) rfl ?_
  refine lv_aload_n E.1 E.2.1 dL_law_1134 rfl (lv_at hl 3 rfl) ?_
  refine lv_iload_n E.1 E.2.1 dL_law_1135 rfl (lv_at hl 0 rfl) ?_
  refine lv_iconst (v := 2) E.1 E.2.1 dL_law_1136 (by decide) ?_
  refine lv_iadd E.1 E.2.1 dL_law_1137 ?_
  refine m_ci 2 (by decide) ?_
  refine va_sld E.1 E.2.1 hX hbl hbA G.2.2 (by unfold vp_in; decide) dL_law_1138 ?_
  refine m_ci (xs 2) rfl ?_
  refine lv_aload_n E.1 E.2.1 dL_law_1139 rfl (lv_at hl 3 rfl) ?_
  refine lv_iload_n E.1 E.2.1 dL_law_1140 rfl (lv_at hl 0 rfl) ?_
  refine lv_iconst (v := 3) E.1 E.2.1 dL_law_1141 (by decide) ?_
  refine lv_iadd E.1 E.2.1 dL_law_1142 ?_
  refine m_ci 3 (by decide) ?_
  refine va_sld E.1 E.2.1 hX hbl hbA G.2.2 (by unfold vp_in; decide) dL_law_1143 ?_
  refine m_ci (xs 3) rfl ?_
  refine lv_aload_n E.1 E.2.1 dL_law_1144 rfl (lv_at hl 3 rfl) ?_
  refine lv_iload_n E.1 E.2.1 dL_law_1145 rfl (lv_at hl 0 rfl) ?_
  refine lv_iconst (v := 4) E.1 E.2.1 dL_law_1146 (by decide) ?_
  refine lv_iadd E.1 E.2.1 dL_law_1147 ?_
  refine m_ci 4 (by decide) ?_
  refine va_sld E.1 E.2.1 hX hbl hbA G.2.2 (by unfold vp_in; decide) dL_law_1148 ?_
  refine m_ci (xs 4) rfl ?_
  refine m_vi E G hl (k_nights l D K h0 tp tr rr dr rs nr nw im ac co al ta ma ga og pl sa no j0 j1 j2 j3 j4 j5 (xs 1) (xs 2) (xs 3) (xs 4)) (wr := [(y0, .inr (11, [.ref m_tape, .int 0, .int 0, .ref m_sign, .ref m_length, .ref m_clause, .ref m_clauses, .ref m_read, .int 0, .int 0, .int 0, .int 0, .int 0, .int 0, .int 0, .ref m_open, .int 0, .ref m_stack, .int 0, .ref m_word, .ref m_said, .int (-1), .int 0, .ref m_goesTo, .ref m_hadBy, .ref m_wasSaid, .int 0, .ref m_kept, .ref m_hasBy, .ref m_standsThen, .ref m_isFit, .ref m_cornerThen, .long 0, .ref m_images, .ref m_imageForce, .ref m_imageX, .ref m_isMade])), (m_said, .inl (K 0, 127, .inl (fun _ => 0)))]) [0, 1, 2] [3, 4] rfl rfl (by decide) (by decide) (by decide) 0 (ci := 10) rfl rfl rfl 4 rfl mw_code_X10_nights mw_ini_10 mw_ml_L_147 mw_inst_X10_nights mw_sel_X10_nights hd_X10_nights ⟨by decide, by decide⟩ rfl (Nat.le_of_ble_eq_true rfl) ⟨by decide, by decide⟩ dL_law_1149 (fun r_2 u_1 H locs hp G => ?_)
  have G : mG D A s H locs [(y0, .inr (11, [.ref m_tape, .int 0, .int 0, .ref m_sign, .ref m_length, .ref m_clause, .ref m_clauses, .ref m_read, .int 0, .int 0, .int 0, .int 0, .int 0, .int 0, .int 0, .ref m_open, .int 0, .ref m_stack, .int 0, .ref m_word, .ref m_said, .int (-1), .int 0, .ref m_goesTo, .ref m_hadBy, .ref m_wasSaid, .int 0, .ref m_kept, .ref m_hasBy, .ref m_standsThen, .ref m_isFit, .ref m_cornerThen, .long 0, .ref m_images, .ref m_imageForce, .ref m_imageX, .ref m_isMade])), (m_said, .inl (K 0, 127, .inl (fun _ => 0)))] := G
  subst hp
  refine lv_aload_n E.1 E.2.1 dL_law_1152 rfl (lv_at hl 1 rfl) ?_
  refine lv_aload_n E.1 E.2.1 dL_law_1153 rfl (lv_at hl 3 rfl) ?_
  refine lv_iload_n E.1 E.2.1 dL_law_1154 rfl (lv_at hl 0 rfl) ?_
  refine lv_iconst (v := 1) E.1 E.2.1 dL_law_1155 (by decide) ?_
  refine lv_iadd E.1 E.2.1 dL_law_1156 ?_
  refine m_ci 1 (by decide) ?_
  refine va_sld E.1 E.2.1 hX hbl hbA G.2.2 (by unfold vp_in; decide) dL_law_1157 ?_
  refine m_ci (xs 1) rfl ?_
  refine lv_aload_n E.1 E.2.1 dL_law_1158 rfl (lv_at hl 3 rfl) ?_
  refine lv_iload_n E.1 E.2.1 dL_law_1159 rfl (lv_at hl 0 rfl) ?_
  refine lv_iconst (v := 2) E.1 E.2.1 dL_law_1160 (by decide) ?_
  refine lv_iadd E.1 E.2.1 dL_law_1161 ?_
  refine m_ci 2 (by decide) ?_
  refine va_sld E.1 E.2.1 hX hbl hbA G.2.2 (by unfold vp_in; decide) dL_law_1162 ?_
  refine m_ci (xs 2) rfl ?_
  refine lv_aload_n E.1 E.2.1 dL_law_1163 rfl (lv_at hl 3 rfl) ?_
  refine lv_iload_n E.1 E.2.1 dL_law_1164 rfl (lv_at hl 0 rfl) ?_
  refine lv_iconst (v := 3) E.1 E.2.1 dL_law_1165 (by decide) ?_
  refine lv_iadd E.1 E.2.1 dL_law_1166 ?_
  refine m_ci 3 (by decide) ?_
  refine va_sld E.1 E.2.1 hX hbl hbA G.2.2 (by unfold vp_in; decide) dL_law_1167 ?_
  refine m_ci (xs 3) rfl ?_
  refine lv_aload_n E.1 E.2.1 dL_law_1168 rfl (lv_at hl 3 rfl) ?_
  refine lv_iload_n E.1 E.2.1 dL_law_1169 rfl (lv_at hl 0 rfl) ?_
  refine lv_iconst (v := 4) E.1 E.2.1 dL_law_1170 (by decide) ?_
  refine lv_iadd E.1 E.2.1 dL_law_1171 ?_
  refine m_ci 4 (by decide) ?_
  refine va_sld E.1 E.2.1 hX hbl hbA G.2.2 (by unfold vp_in; decide) dL_law_1172 ?_
  refine m_ci (xs 4) rfl ?_
  refine m_vi E G hl (r_nights l D K y0 m_tape m_sign m_length m_clause m_clauses m_read m_open m_stack m_word m_said m_goesTo m_hadBy m_wasSaid m_kept m_hasBy m_standsThen m_isFit m_cornerThen m_images m_imageForce m_imageX m_isMade (xs 1) (xs 2) (xs 3) (xs 4)) (wr := []) [0, 1] [] rfl rfl (by decide) (by decide) (by decide) 0 (ci := 11) rfl rfl rfl 4 rfl mw_code_X11_nights mw_ini_11 mw_ml_L_150 mw_inst_X11_nights mw_sel_X11_nights hd_X11_nights ⟨by decide, by decide⟩ rfl (Nat.le_of_ble_eq_true rfl) ⟨by decide, by decide⟩ dL_law_1173 (fun r_4 u_3 H locs hp G => ?_)
  have G : mG D A s H locs [] := G
  subst hp
  refine lv_icmp_eq (tgt := 1250) E.1 E.2.1 dL_law_1176 (by decide) (fun _ => ?_) (fun h => absurd (by decide) h)
  exact law_tail l E hr hX hbl hbA hge G.2.2 (lv_sub hl [3, 0] rfl)
