theorem dX11_town_0 : decode cX11_town 0 = .ok (.aload_n 0, 1) := by decide +kernel
theorem dX11_town_1 : decode cX11_town 1 = .ok (.bipush 6, 2) := by decide +kernel
theorem dX11_town_3 : decode cX11_town 3 = .ok (.putfield 147, 3) := by decide +kernel
theorem dX11_town_6 : decode cX11_town 6 = .ok (.iconst 0, 1) := by decide +kernel
theorem dX11_town_7 : decode cX11_town 7 = .ok (.istore_n 1, 1) := by decide +kernel
theorem dX11_town_8 : decode cX11_town 8 = .ok (.iload_n 1, 1) := by decide +kernel
theorem dX11_town_9 : decode cX11_town 9 = .ok (.bipush 96, 2) := by decide +kernel
theorem dX11_town_11 : decode cX11_town 11 = .ok (.if_icmp .ge 16, 3) := by decide +kernel
theorem dX11_town_14 : decode cX11_town 14 = .ok (.aload_n 0, 1) := by decide +kernel
theorem dX11_town_15 : decode cX11_town 15 = .ok (.getfield 26, 3) := by decide +kernel
theorem dX11_town_18 : decode cX11_town 18 = .ok (.iload_n 1, 1) := by decide +kernel
theorem dX11_town_19 : decode cX11_town 19 = .ok (.iconst 0, 1) := by decide +kernel
theorem dX11_town_20 : decode cX11_town 20 = .ok (.iastore, 1) := by decide +kernel
theorem dX11_town_21 : decode cX11_town 21 = .ok (.iinc 1 1, 3) := by decide +kernel
theorem dX11_town_24 : decode cX11_town 24 = .ok (.goto (-16), 3) := by decide +kernel
theorem dX11_town_27 : decode cX11_town 27 = .ok (.aload_n 0, 1) := by decide +kernel
theorem dX11_town_28 : decode cX11_town 28 = .ok (.invokevirtual 261, 3) := by decide +kernel
theorem dX11_town_31 : decode cX11_town 31 = .ok (.ifCond .ne 11, 3) := by decide +kernel
theorem dX11_town_34 : decode cX11_town 34 = .ok (.bipush (-2), 2) := by decide +kernel
theorem dX11_town_36 : decode cX11_town 36 = .ok (.aload_n 0, 1) := by decide +kernel
theorem dX11_town_37 : decode cX11_town 37 = .ok (.getfield 90, 3) := by decide +kernel
theorem dX11_town_40 : decode cX11_town 40 = .ok (.isub, 1) := by decide +kernel
theorem dX11_town_41 : decode cX11_town 41 = .ok (.ireturn, 1) := by decide +kernel
set_option maxHeartbeats 4000000 in
theorem loop_town {p : Program} {l : Launch} {e : Env} {R : Room} {s : State} {m : MethodId} {args : Array Value} {below : List Frame} {meth : Method} {c : Code} {cells slots : Nat} {Q : State → Prop} {D : va_G} {K : Nat → ClassId} {A : Nat → Prop} (h0 : Nat) (m_tape : Nat) (m_sign : Nat) (m_length : Nat) (m_clause : Nat) (m_clauses : Nat) (m_read : Nat) (m_open : Nat) (m_stack : Nat) (m_word : Nat) (m_said : Nat) (m_goesTo : Nat) (m_hadBy : Nat) (m_wasSaid : Nat) (m_kept : Nat) (m_hasBy : Nat) (m_standsThen : Nat) (m_isFit : Nat) (m_cornerThen : Nat) (m_images : Nat) (m_imageForce : Nat) (m_imageX : Nat) (m_isMade : Nat) (E : mE p s m meth c cX11_town args 2 RX11 D K A) (KX : (∀ (H : Heap) (locs : List Loc) (ls : Array Slot) (f0 : Nat → Int32), mG D A s H locs [(h0, .inr (11, [.ref m_tape, .int 0, .int 0, .ref m_sign, .ref m_length, .ref m_clause, .ref m_clauses, .ref m_read, .int 0, .int 0, .int 0, .int 6, .int 0, .int 0, .int 0, .ref m_open, .int 0, .ref m_stack, .int 0, .ref m_word, .ref m_said, .int (-1), .int 0, .ref m_goesTo, .ref m_hadBy, .ref m_wasSaid, .int 0, .ref m_kept, .ref m_hasBy, .ref m_standsThen, .ref m_isFit, .ref m_cornerThen, .long 0, .ref m_images, .ref m_imageForce, .ref m_imageX, .ref m_isMade])), (m_read, .inl (K 0, 96, .inl f0)), (m_length, .inl (K 0, 7, .inl (fun _ => 0)))] → lv_has ls 2 [(1, .int (nI 96)), (0, .ref h0)] → W p l e R s m args below meth c H locs cells slots Q (F0 m 27 ls []))) : ∀ (n i : Nat), i + n = 96 → (∀ (H : Heap) (locs : List Loc) (ls : Array Slot) (f0 : Nat → Int32), mG D A s H locs [(h0, .inr (11, [.ref m_tape, .int 0, .int 0, .ref m_sign, .ref m_length, .ref m_clause, .ref m_clauses, .ref m_read, .int 0, .int 0, .int 0, .int 6, .int 0, .int 0, .int 0, .ref m_open, .int 0, .ref m_stack, .int 0, .ref m_word, .ref m_said, .int (-1), .int 0, .ref m_goesTo, .ref m_hadBy, .ref m_wasSaid, .int 0, .ref m_kept, .ref m_hasBy, .ref m_standsThen, .ref m_isFit, .ref m_cornerThen, .long 0, .ref m_images, .ref m_imageForce, .ref m_imageX, .ref m_isMade])), (m_read, .inl (K 0, 96, .inl f0)), (m_length, .inl (K 0, 7, .inl (fun _ => 0)))] → lv_has ls 2 [(1, .int (nI i)), (0, .ref h0)] → W p l e R s m args below meth c H locs cells slots Q (F0 m 8 ls [])) := by
  intro n
  induction n with
  | zero =>
    intro i hi H locs ls f0 G hl
    have hi : i = 96 := hi
    subst hi
    refine lv_iload_n E.1 E.2.1 dX11_town_8 rfl (lv_at hl 0 rfl) ?_
    refine lv_bipush (v := 96) E.1 E.2.1 dX11_town_9 (by decide) ?_
    refine lv_icmp_ge (tgt := 27) E.1 E.2.1 dX11_town_11 (by decide) (fun _ => ?_) (fun h => absurd (by decide) h)
    exact KX H locs ls f0 G hl
  | succ n ih =>
    intro i hi H locs ls f0 G hl
    have hlt : i < 96 := by omega
    refine lv_iload_n E.1 E.2.1 dX11_town_8 rfl (lv_at hl 0 rfl) ?_
    refine lv_bipush (v := 96) E.1 E.2.1 dX11_town_9 (by decide) ?_
    refine lv_icmp_ge (tgt := 27) E.1 E.2.1 dX11_town_11 (by decide) (fun h => absurd h (nI_ge (a := i) (b := 96) hlt (by decide))) (fun _ => ?_)
    refine lv_aload_n E.1 E.2.1 dX11_town_14 rfl (lv_at hl 1 rfl) ?_
    refine m_get E G 0 (ci := 11) rfl 7 (C := RX11) (T := TX11) (N := 37) rfl (by decide) mw_fl_11_26 (v := .ref m_read) rfl dX11_town_15 ?_
    refine lv_iload_n E.1 E.2.1 dX11_town_18 rfl (lv_at hl 0 rfl) ?_
    refine lv_iconst (v := 0) E.1 E.2.1 dX11_town_19 (by decide) ?_
    refine m_iast E G 1 rfl (vp_in_nI hlt (by decide)) dX11_town_20 (fun H locs G => ?_)
    obtain ⟨f_1, ef_1⟩ : ∃ f_1 : Nat → Int32, f_1 = (upd f0 ((nI i) : Int32).toNatClampNeg (0 : Int32)) := ⟨_, rfl⟩
    have G : mG D A s H locs [(h0, .inr (11, [.ref m_tape, .int 0, .int 0, .ref m_sign, .ref m_length, .ref m_clause, .ref m_clauses, .ref m_read, .int 0, .int 0, .int 0, .int 6, .int 0, .int 0, .int 0, .ref m_open, .int 0, .ref m_stack, .int 0, .ref m_word, .ref m_said, .int (-1), .int 0, .ref m_goesTo, .ref m_hadBy, .ref m_wasSaid, .int 0, .ref m_kept, .ref m_hasBy, .ref m_standsThen, .ref m_isFit, .ref m_cornerThen, .long 0, .ref m_images, .ref m_imageForce, .ref m_imageX, .ref m_isMade])), (m_read, .inl (K 0, 96, .inl f_1)), (m_length, .inl (K 0, 7, .inl (fun _ => 0)))] := by subst ef_1; exact G
    clear ef_1
    refine lv_iinc (v := (nI (i + 1))) (lv' := [(1, .int (nI (i + 1))), (0, .ref h0)]) E.1 E.2.1 dX11_town_21 hl (k := 0) rfl (nI_1 i) (by decide) rfl (fun ls hl => ?_)
    refine lv_goto (tgt := 8) E.1 E.2.1 dX11_town_24 (by decide) ?_
    exact ih (i + 1) (by omega) H locs ls _ G (lv_sub hl [0, 1] rfl)
set_option maxHeartbeats 4000000 in
set_option maxRecDepth 100000 in
theorem r_town (l : Launch) (D : va_G) (K : Nat → ClassId) (h0 : Nat) (m_tape : Nat) (m_sign : Nat) (m_length : Nat) (m_clause : Nat) (m_clauses : Nat) (m_read : Nat) (m_open : Nat) (m_stack : Nat) (m_word : Nat) (m_said : Nat) (m_goesTo : Nat) (m_hadBy : Nat) (m_wasSaid : Nat) (m_kept : Nat) (m_hasBy : Nat) (m_standsThen : Nat) (m_isFit : Nat) (m_cornerThen : Nat) (m_images : Nat) (m_imageForce : Nat) (m_imageX : Nat) (m_isMade : Nat) : mI (S := mU) l yX11_town cX11_town 2 .int ({ frames := 5, cells := 0, slots := 0, locals := 109 }) D K [(h0, .inr (11, [.ref m_tape, .int 0, .int 0, .ref m_sign, .ref m_length, .ref m_clause, .ref m_clauses, .ref m_read, .int 0, .int 0, .int 0, .int 0, .int 0, .int 0, .int 0, .ref m_open, .int 0, .ref m_stack, .int 0, .ref m_word, .ref m_said, .int (-1), .int 0, .ref m_goesTo, .ref m_hadBy, .ref m_wasSaid, .int 0, .ref m_kept, .ref m_hasBy, .ref m_standsThen, .ref m_isFit, .ref m_cornerThen, .long 0, .ref m_images, .ref m_imageForce, .ref m_imageX, .ref m_isMade])), (m_read, .inl (K 0, 96, .inl (fun _ => 0))), (m_length, .inl (K 0, 7, .inl (fun _ => 0)))] [.ref h0] (fun r u => r = (-3)) (fun u => []) := by
  refine m_enterI (by decide) (Nat.le_of_ble_eq_true rfl) ?_
  intro p e s m args below meth c A ls E hr G hl
  have E : mE p s m meth c cX11_town args 2 RX11 D K A := E
  have hl : lv_has ls 2 [(0, .ref h0)] := hl
  obtain ⟨H, hH⟩ : ∃ H, H = s.heap := ⟨_, rfl⟩
  obtain ⟨locs, hlo⟩ : ∃ L : List Loc, L = [] := ⟨_, rfl⟩
  rw [← hH, ← hlo] at G
  rw [← hH, ← hlo]
  have G : mG D A s H locs [(h0, .inr (11, [.ref m_tape, .int 0, .int 0, .ref m_sign, .ref m_length, .ref m_clause, .ref m_clauses, .ref m_read, .int 0, .int 0, .int 0, .int 0, .int 0, .int 0, .int 0, .ref m_open, .int 0, .ref m_stack, .int 0, .ref m_word, .ref m_said, .int (-1), .int 0, .ref m_goesTo, .ref m_hadBy, .ref m_wasSaid, .int 0, .ref m_kept, .ref m_hasBy, .ref m_standsThen, .ref m_isFit, .ref m_cornerThen, .long 0, .ref m_images, .ref m_imageForce, .ref m_imageX, .ref m_isMade])), (m_read, .inl (K 0, 96, .inl (fun _ => 0))), (m_length, .inl (K 0, 7, .inl (fun _ => 0)))] := G
  clear hH hlo
  refine lv_aload_n E.1 E.2.1 dX11_town_0 rfl (lv_at hl 0 rfl) ?_
  refine lv_bipush (v := 6) E.1 E.2.1 dX11_town_1 (by decide) ?_
  refine m_put E G 0 (ci := 11) rfl 11 (C := RX11) (T := TX11) (N := 37) rfl (by decide) mw_fl_11_147 rfl rfl rfl (Nat.le_of_ble_eq_true rfl) dX11_town_3 (fun H locs G => ?_)
  have G : mG D A s H locs [(h0, .inr (11, [.ref m_tape, .int 0, .int 0, .ref m_sign, .ref m_length, .ref m_clause, .ref m_clauses, .ref m_read, .int 0, .int 0, .int 0, .int 6, .int 0, .int 0, .int 0, .ref m_open, .int 0, .ref m_stack, .int 0, .ref m_word, .ref m_said, .int (-1), .int 0, .ref m_goesTo, .ref m_hadBy, .ref m_wasSaid, .int 0, .ref m_kept, .ref m_hasBy, .ref m_standsThen, .ref m_isFit, .ref m_cornerThen, .long 0, .ref m_images, .ref m_imageForce, .ref m_imageX, .ref m_isMade])), (m_read, .inl (K 0, 96, .inl (fun _ => 0))), (m_length, .inl (K 0, 7, .inl (fun _ => 0)))] := G
  refine lv_iconst (v := 0) E.1 E.2.1 dX11_town_6 (by decide) ?_
  refine lv_istore_n (lv' := [(1, .int 0), (0, .ref h0)]) E.1 E.2.1 dX11_town_7 rfl hl (by decide) rfl (fun ls hl => ?_)
  refine loop_town h0 m_tape m_sign m_length m_clause m_clauses m_read m_open m_stack m_word m_said m_goesTo m_hadBy m_wasSaid m_kept m_hasBy m_standsThen m_isFit m_cornerThen m_images m_imageForce m_imageX m_isMade E (fun H locs ls f_1 G hl => ?_) 96 0 rfl H locs ls _ G hl
  have hl : lv_has ls 2 [(1, .int 96), (0, .ref h0)] := hl
  refine lv_aload_n E.1 E.2.1 dX11_town_27 rfl (lv_at hl 1 rfl) ?_
  refine m_vi E G hl (r_readsAll_6 l D K h0 m_tape m_sign m_length m_clause m_clauses m_read m_open m_stack m_word m_said m_goesTo m_hadBy m_wasSaid m_kept m_hasBy m_standsThen m_isFit m_cornerThen m_images m_imageForce m_imageX m_isMade) (wr := [(m_read, .inl (K 0, 96, .inl f_1))]) [0, 2] [1] rfl rfl (by decide) (by decide) (by decide) 0 (ci := 11) rfl rfl rfl 0 rfl mw_code_X11_readsAll mw_ini_11 mw_ml_11_261 mw_inst_X11_readsAll mw_sel_X11_readsAll hd_X11_readsAll ⟨by decide, by decide⟩ rfl (Nat.le_of_ble_eq_true rfl) ⟨by decide, by decide⟩ dX11_town_28 (fun r_3 u_2 H locs hp G => ?_)
  have G : mG D A s H locs [(m_read, .inl (K 0, 96, .inl f_1)), (h0, .inr (11, [.ref m_tape, .int 0, .int 0, .ref m_sign, .ref m_length, .ref m_clause, .ref m_clauses, .ref m_read, .int 0, .int 1, .int 0, .int 6, .int 0, .int 0, .int 0, .ref m_open, .int 0, .ref m_stack, .int 0, .ref m_word, .ref m_said, .int (-1), .int 0, .ref m_goesTo, .ref m_hadBy, .ref m_wasSaid, .int 0, .ref m_kept, .ref m_hasBy, .ref m_standsThen, .ref m_isFit, .ref m_cornerThen, .long 0, .ref m_images, .ref m_imageForce, .ref m_imageX, .ref m_isMade]))] := G
  subst hp
  refine lv_if_ne (tgt := 42) E.1 E.2.1 dX11_town_31 (by decide) (fun h => absurd (by decide) h) (fun _ => ?_)
  refine lv_bipush (v := (-2)) E.1 E.2.1 dX11_town_34 (by decide) ?_
  refine lv_aload_n E.1 E.2.1 dX11_town_36 rfl (lv_at hl 1 rfl) ?_
  refine m_get E G 1 (ci := 11) rfl 9 (C := RX11) (T := TX11) (N := 37) rfl (by decide) mw_fl_11_90 (v := .int 1) rfl dX11_town_37 ?_
  refine lv_isub E.1 E.2.1 dX11_town_40 ?_
  refine m_ci (-3) (by decide) ?_
  exact m_reti E G hr rfl (fun _ => 0, fun _ _ => 0, fun _ _ => none) rfl [] (by decide) rfl (by decide) (by decide) dX11_town_41
