theorem dX11_image_0 : decode cX11_image 0 = .ok (.iload_n 1, 1) := by decide +kernel
theorem dX11_image_1 : decode cX11_image 1 = .ok (.i2l, 1) := by decide +kernel
theorem dX11_image_2 : decode cX11_image 2 = .ok (.lconst 0, 1) := by decide +kernel
theorem dX11_image_3 : decode cX11_image 3 = .ok (.ldc2_w 469, 3) := by decide +kernel
theorem dX11_image_6 : decode cX11_image 6 = .ok (.invokestatic 121, 3) := by decide +kernel
theorem dX11_image_9 : decode cX11_image 9 = .ok (.ifCond .ne 5, 3) := by decide +kernel
theorem dX11_image_12 : decode cX11_image 12 = .ok (.iconst (-1), 1) := by decide +kernel
theorem dX11_image_13 : decode cX11_image 13 = .ok (.ireturn, 1) := by decide +kernel
theorem dX11_image_14 : decode cX11_image 14 = .ok (.aload_n 0, 1) := by decide +kernel
theorem dX11_image_15 : decode cX11_image 15 = .ok (.getfield 80, 3) := by decide +kernel
theorem dX11_image_18 : decode cX11_image 18 = .ok (.iload_n 1, 1) := by decide +kernel
theorem dX11_image_19 : decode cX11_image 19 = .ok (.iconst 1, 1) := by decide +kernel
theorem dX11_image_20 : decode cX11_image 20 = .ok (.bastore, 1) := by decide +kernel
theorem dX11_image_21 : decode cX11_image 21 = .ok (.aload_n 0, 1) := by decide +kernel
theorem dX11_image_22 : decode cX11_image 22 = .ok (.getfield 74, 3) := by decide +kernel
theorem dX11_image_25 : decode cX11_image 25 = .ok (.iload_n 1, 1) := by decide +kernel
theorem dX11_image_26 : decode cX11_image 26 = .ok (.aload_n 0, 1) := by decide +kernel
theorem dX11_image_27 : decode cX11_image 27 = .ok (.getfield 42, 3) := by decide +kernel
theorem dX11_image_30 : decode cX11_image 30 = .ok (.iastore, 1) := by decide +kernel
theorem dX11_image_31 : decode cX11_image 31 = .ok (.aload_n 0, 1) := by decide +kernel
theorem dX11_image_32 : decode cX11_image 32 = .ok (.getfield 77, 3) := by decide +kernel
theorem dX11_image_35 : decode cX11_image 35 = .ok (.iload_n 1, 1) := by decide +kernel
theorem dX11_image_36 : decode cX11_image 36 = .ok (.aload_n 0, 1) := by decide +kernel
theorem dX11_image_37 : decode cX11_image 37 = .ok (.getfield 446, 3) := by decide +kernel
theorem dX11_image_40 : decode cX11_image 40 = .ok (.iastore, 1) := by decide +kernel
theorem dX11_image_41 : decode cX11_image 41 = .ok (.iconst 0, 1) := by decide +kernel
theorem dX11_image_42 : decode cX11_image 42 = .ok (.istore_n 2, 1) := by decide +kernel
theorem dX11_image_43 : decode cX11_image 43 = .ok (.iload_n 2, 1) := by decide +kernel
theorem dX11_image_44 : decode cX11_image 44 = .ok (.bipush 127, 2) := by decide +kernel
theorem dX11_image_46 : decode cX11_image 46 = .ok (.if_icmp .ge 26, 3) := by decide +kernel
theorem dX11_image_49 : decode cX11_image 49 = .ok (.aload_n 0, 1) := by decide +kernel
theorem dX11_image_50 : decode cX11_image 50 = .ok (.getfield 71, 3) := by decide +kernel
theorem dX11_image_53 : decode cX11_image 53 = .ok (.bipush 127, 2) := by decide +kernel
theorem dX11_image_55 : decode cX11_image 55 = .ok (.iload_n 1, 1) := by decide +kernel
theorem dX11_image_56 : decode cX11_image 56 = .ok (.imul, 1) := by decide +kernel
theorem dX11_image_57 : decode cX11_image 57 = .ok (.iload_n 2, 1) := by decide +kernel
theorem dX11_image_58 : decode cX11_image 58 = .ok (.iadd, 1) := by decide +kernel
theorem dX11_image_59 : decode cX11_image 59 = .ok (.aload_n 0, 1) := by decide +kernel
theorem dX11_image_60 : decode cX11_image 60 = .ok (.getfield 39, 3) := by decide +kernel
theorem dX11_image_63 : decode cX11_image 63 = .ok (.iload_n 2, 1) := by decide +kernel
theorem dX11_image_64 : decode cX11_image 64 = .ok (.iaload, 1) := by decide +kernel
theorem dX11_image_65 : decode cX11_image 65 = .ok (.iastore, 1) := by decide +kernel
theorem dX11_image_66 : decode cX11_image 66 = .ok (.iinc 2 1, 3) := by decide +kernel
theorem dX11_image_69 : decode cX11_image 69 = .ok (.goto (-26), 3) := by decide +kernel
theorem dX11_image_72 : decode cX11_image 72 = .ok (.aload_n 0, 1) := by decide +kernel
theorem dX11_image_73 : decode cX11_image 73 = .ok (.getfield 39, 3) := by decide +kernel
theorem dX11_image_76 : decode cX11_image 76 = .ok (.bipush 10, 2) := by decide +kernel
theorem dX11_image_78 : decode cX11_image 78 = .ok (.iaload, 1) := by decide +kernel
theorem dX11_image_79 : decode cX11_image 79 = .ok (.ireturn, 1) := by decide +kernel
set_option maxHeartbeats 4000000 in
theorem loop_image {p : Program} {l : Launch} {e : Env} {R : Room} {s : State} {m : MethodId} {args : Array Value} {below : List Frame} {meth : Method} {c : Code} {cells slots : Nat} {Q : State → Prop} {D : va_G} {K : Nat → ClassId} {A : Nat → Prop} (h0 : Nat) (m_tape : Nat) (m_sign : Nat) (m_length : Nat) (m_clause : Nat) (m_clauses : Nat) (m_read : Nat) (m_open : Nat) (m_stack : Nat) (m_word : Nat) (m_said : Nat) (m_goesTo : Nat) (m_hadBy : Nat) (m_wasSaid : Nat) (m_kept : Nat) (m_hasBy : Nat) (m_standsThen : Nat) (m_isFit : Nat) (m_cornerThen : Nat) (m_images : Nat) (m_imageForce : Nat) (m_imageX : Nat) (m_isMade : Nat) (fa : Nat → Int32) (fb : Nat → Int32) (fc : Nat → Int32) (p1 : Int32) (hb : ∀ i, i < 127 → vp_in (((127 : Int32) * p1) + nI i) 508) (E : mE p s m meth c cX11_image args 3 RX11 D K A) (KX : (∀ (H : Heap) (locs : List Loc) (ls : Array Slot) (f0 : Nat → Int32), mG D A s H locs [(h0, .inr (11, [.ref m_tape, .int 0, .int 0, .ref m_sign, .ref m_length, .ref m_clause, .ref m_clauses, .ref m_read, .int 0, .int 0, .int 0, .int 0, .int 0, .int 0, .int 0, .ref m_open, .int 0, .ref m_stack, .int 0, .ref m_word, .ref m_said, .int (-1), .int 0, .ref m_goesTo, .ref m_hadBy, .ref m_wasSaid, .int 0, .ref m_kept, .ref m_hasBy, .ref m_standsThen, .ref m_isFit, .ref m_cornerThen, .long 0, .ref m_images, .ref m_imageForce, .ref m_imageX, .ref m_isMade])), (m_said, .inl (K 0, 127, .inl (fun _ => 0))), (m_images, .inl (K 0, 508, .inl f0)), (m_imageForce, .inl (K 0, 4, .inl fa)), (m_imageX, .inl (K 0, 4, .inl fb)), (m_isMade, .inl (K 3, 4, .inl fc))] → lv_has ls 3 [(2, .int (nI 127)), (0, .ref h0), (1, .int p1)] → W p l e R s m args below meth c H locs cells slots Q (F0 m 72 ls []))) : ∀ (n i : Nat), i + n = 127 → (∀ (H : Heap) (locs : List Loc) (ls : Array Slot) (f0 : Nat → Int32), mG D A s H locs [(h0, .inr (11, [.ref m_tape, .int 0, .int 0, .ref m_sign, .ref m_length, .ref m_clause, .ref m_clauses, .ref m_read, .int 0, .int 0, .int 0, .int 0, .int 0, .int 0, .int 0, .ref m_open, .int 0, .ref m_stack, .int 0, .ref m_word, .ref m_said, .int (-1), .int 0, .ref m_goesTo, .ref m_hadBy, .ref m_wasSaid, .int 0, .ref m_kept, .ref m_hasBy, .ref m_standsThen, .ref m_isFit, .ref m_cornerThen, .long 0, .ref m_images, .ref m_imageForce, .ref m_imageX, .ref m_isMade])), (m_said, .inl (K 0, 127, .inl (fun _ => 0))), (m_images, .inl (K 0, 508, .inl f0)), (m_imageForce, .inl (K 0, 4, .inl fa)), (m_imageX, .inl (K 0, 4, .inl fb)), (m_isMade, .inl (K 3, 4, .inl fc))] → lv_has ls 3 [(2, .int (nI i)), (0, .ref h0), (1, .int p1)] → W p l e R s m args below meth c H locs cells slots Q (F0 m 43 ls [])) := by
  intro n
  induction n with
  | zero =>
    intro i hi H locs ls f0 G hl
    have hi : i = 127 := hi
    subst hi
    refine lv_iload_n E.1 E.2.1 dX11_image_43 rfl (lv_at hl 0 rfl) ?_
    refine lv_bipush (v := 127) E.1 E.2.1 dX11_image_44 (by decide) ?_
    refine lv_icmp_ge (tgt := 72) E.1 E.2.1 dX11_image_46 (by decide) (fun _ => ?_) (fun h => absurd (by decide) h)
    exact KX H locs ls f0 G hl
  | succ n ih =>
    intro i hi H locs ls f0 G hl
    have hlt : i < 127 := by omega
    refine lv_iload_n E.1 E.2.1 dX11_image_43 rfl (lv_at hl 0 rfl) ?_
    refine lv_bipush (v := 127) E.1 E.2.1 dX11_image_44 (by decide) ?_
    refine lv_icmp_ge (tgt := 72) E.1 E.2.1 dX11_image_46 (by decide) (fun h => absurd h (nI_ge (a := i) (b := 127) hlt (by decide))) (fun _ => ?_)
    refine lv_aload_n E.1 E.2.1 dX11_image_49 rfl (lv_at hl 1 rfl) ?_
    refine m_get E G 0 (ci := 11) rfl 33 (C := RX11) (T := TX11) (N := 37) rfl (by decide) mw_fl_11_71 (v := .ref m_images) rfl dX11_image_50 ?_
    refine lv_bipush (v := 127) E.1 E.2.1 dX11_image_53 (by decide) ?_
    refine lv_iload_n E.1 E.2.1 dX11_image_55 rfl (lv_at hl 2 rfl) ?_
    refine lv_imul E.1 E.2.1 dX11_image_56 ?_
    refine lv_iload_n E.1 E.2.1 dX11_image_57 rfl (lv_at hl 0 rfl) ?_
    refine lv_iadd E.1 E.2.1 dX11_image_58 ?_
    refine lv_aload_n E.1 E.2.1 dX11_image_59 rfl (lv_at hl 1 rfl) ?_
    refine m_get E G 0 (ci := 11) rfl 20 (C := RX11) (T := TX11) (N := 37) rfl (by decide) mw_fl_11_39 (v := .ref m_said) rfl dX11_image_60 ?_
    refine lv_iload_n E.1 E.2.1 dX11_image_63 rfl (lv_at hl 0 rfl) ?_
    refine m_iald E G 1 rfl (vp_in_nI hlt (by decide)) dX11_image_64 ?_
    refine m_ci 0 rfl ?_
    refine m_iast E G 2 rfl (hb i hlt) dX11_image_65 (fun H locs G => ?_)
    obtain ⟨f_1, ef_1⟩ : ∃ f_1 : Nat → Int32, f_1 = (upd f0 ((((127 : Int32) * p1) + (nI i)) : Int32).toNatClampNeg (0 : Int32)) := ⟨_, rfl⟩
    have G : mG D A s H locs [(h0, .inr (11, [.ref m_tape, .int 0, .int 0, .ref m_sign, .ref m_length, .ref m_clause, .ref m_clauses, .ref m_read, .int 0, .int 0, .int 0, .int 0, .int 0, .int 0, .int 0, .ref m_open, .int 0, .ref m_stack, .int 0, .ref m_word, .ref m_said, .int (-1), .int 0, .ref m_goesTo, .ref m_hadBy, .ref m_wasSaid, .int 0, .ref m_kept, .ref m_hasBy, .ref m_standsThen, .ref m_isFit, .ref m_cornerThen, .long 0, .ref m_images, .ref m_imageForce, .ref m_imageX, .ref m_isMade])), (m_said, .inl (K 0, 127, .inl (fun _ => 0))), (m_images, .inl (K 0, 508, .inl f_1)), (m_imageForce, .inl (K 0, 4, .inl fa)), (m_imageX, .inl (K 0, 4, .inl fb)), (m_isMade, .inl (K 3, 4, .inl fc))] := by subst ef_1; exact G
    clear ef_1
    refine lv_iinc (v := (nI (i + 1))) (lv' := [(2, .int (nI (i + 1))), (0, .ref h0), (1, .int p1)]) E.1 E.2.1 dX11_image_66 hl (k := 0) rfl (nI_1 i) (by decide) rfl (fun ls hl => ?_)
    refine lv_goto (tgt := 43) E.1 E.2.1 dX11_image_69 (by decide) ?_
    exact ih (i + 1) (by omega) H locs ls _ G (lv_sub hl [0, 1, 2] rfl)
set_option maxHeartbeats 4000000 in
set_option maxRecDepth 100000 in
theorem r_image (l : Launch) (D : va_G) (K : Nat → ClassId) (h0 : Nat) (m_tape : Nat) (m_sign : Nat) (m_length : Nat) (m_clause : Nat) (m_clauses : Nat) (m_read : Nat) (m_open : Nat) (m_stack : Nat) (m_word : Nat) (m_said : Nat) (m_goesTo : Nat) (m_hadBy : Nat) (m_wasSaid : Nat) (m_kept : Nat) (m_hasBy : Nat) (m_standsThen : Nat) (m_isFit : Nat) (m_cornerThen : Nat) (m_images : Nat) (m_imageForce : Nat) (m_imageX : Nat) (m_isMade : Nat) (p1 : Int32) (hk : ¬ ans_in (p1.toInt64) 0 3 = 0) (hk2 : vp_in p1 4) (hb : ∀ i, i < 127 → vp_in (((127 : Int32) * p1) + nI i) 508) : mI (S := mU) l yX11_image cX11_image 3 .int ({ frames := 1, cells := 0, slots := 0, locals := 25 }) D K [(h0, .inr (11, [.ref m_tape, .int 0, .int 0, .ref m_sign, .ref m_length, .ref m_clause, .ref m_clauses, .ref m_read, .int 0, .int 0, .int 0, .int 0, .int 0, .int 0, .int 0, .ref m_open, .int 0, .ref m_stack, .int 0, .ref m_word, .ref m_said, .int (-1), .int 0, .ref m_goesTo, .ref m_hadBy, .ref m_wasSaid, .int 0, .ref m_kept, .ref m_hasBy, .ref m_standsThen, .ref m_isFit, .ref m_cornerThen, .long 0, .ref m_images, .ref m_imageForce, .ref m_imageX, .ref m_isMade])), (m_said, .inl (K 0, 127, .inl (fun _ => 0))), (m_images, .inl (K 0, 508, .inl (fun _ => 0))), (m_imageForce, .inl (K 0, 4, .inl (fun _ => 0))), (m_imageX, .inl (K 0, 4, .inl (fun _ => 0))), (m_isMade, .inl (K 3, 4, .inl (fun _ => 0)))] [.ref h0, .int p1] (fun r u => r = 0) (fun u => []) := by
  refine m_enterI (by decide) (Nat.le_of_ble_eq_true rfl) ?_
  intro p e s m args below meth c A ls E hr G hl
  have E : mE p s m meth c cX11_image args 3 RX11 D K A := E
  have hl : lv_has ls 3 [(0, .ref h0), (1, .int p1)] := hl
  obtain ⟨H, hH⟩ : ∃ H, H = s.heap := ⟨_, rfl⟩
  obtain ⟨locs, hlo⟩ : ∃ L : List Loc, L = [] := ⟨_, rfl⟩
  rw [← hH, ← hlo] at G
  rw [← hH, ← hlo]
  have G : mG D A s H locs [(h0, .inr (11, [.ref m_tape, .int 0, .int 0, .ref m_sign, .ref m_length, .ref m_clause, .ref m_clauses, .ref m_read, .int 0, .int 0, .int 0, .int 0, .int 0, .int 0, .int 0, .ref m_open, .int 0, .ref m_stack, .int 0, .ref m_word, .ref m_said, .int (-1), .int 0, .ref m_goesTo, .ref m_hadBy, .ref m_wasSaid, .int 0, .ref m_kept, .ref m_hasBy, .ref m_standsThen, .ref m_isFit, .ref m_cornerThen, .long 0, .ref m_images, .ref m_imageForce, .ref m_imageX, .ref m_isMade])), (m_said, .inl (K 0, 127, .inl (fun _ => 0))), (m_images, .inl (K 0, 508, .inl (fun _ => 0))), (m_imageForce, .inl (K 0, 4, .inl (fun _ => 0))), (m_imageX, .inl (K 0, 4, .inl (fun _ => 0))), (m_isMade, .inl (K 3, 4, .inl (fun _ => 0)))] := G
  clear hH hlo
  refine lv_iload_n E.1 E.2.1 dX11_image_0 rfl (lv_at hl 1 rfl) ?_
  refine lv_i2l E.1 E.2.1 dX11_image_1 rfl ?_
  refine lv_lconst (v := 0) E.1 E.2.1 dX11_image_2 (by decide) ?_
  refine lv_ldc2 (v := 3) E.1 E.2.1 E.2.2.2.1 (E.2.2.2.2.1 _ mw_cL_11_469) dX11_image_3 ?_
  refine m_si E G hl (r_in l D K (p1.toInt64) 0 3) (wr := [(h0, .inr (11, [.ref m_tape, .int 0, .int 0, .ref m_sign, .ref m_length, .ref m_clause, .ref m_clauses, .ref m_read, .int 0, .int 0, .int 0, .int 0, .int 0, .int 0, .int 0, .ref m_open, .int 0, .ref m_stack, .int 0, .ref m_word, .ref m_said, .int (-1), .int 0, .ref m_goesTo, .ref m_hadBy, .ref m_wasSaid, .int 0, .ref m_kept, .ref m_hasBy, .ref m_standsThen, .ref m_isFit, .ref m_cornerThen, .long 0, .ref m_images, .ref m_imageForce, .ref m_imageX, .ref m_isMade])), (m_said, .inl (K 0, 127, .inl (fun _ => 0))), (m_images, .inl (K 0, 508, .inl (fun _ => 0))), (m_imageForce, .inl (K 0, 4, .inl (fun _ => 0))), (m_imageX, .inl (K 0, 4, .inl (fun _ => 0))), (m_isMade, .inl (K 3, 4, .inl (fun _ => 0)))]) [] [0, 1, 2, 3, 4, 5] rfl rfl (by decide) (by decide) (by decide) 3 rfl mw_code_X11_in mw_ini_11 mw_ml_11_121 mw_stat_X11_in hd_X11_in ⟨by decide, by decide⟩ rfl (Nat.le_of_ble_eq_true rfl) ⟨by decide, by decide⟩ dX11_image_6 (fun r_2 u_1 H locs hp G => ?_)
  have G : mG D A s H locs [(h0, .inr (11, [.ref m_tape, .int 0, .int 0, .ref m_sign, .ref m_length, .ref m_clause, .ref m_clauses, .ref m_read, .int 0, .int 0, .int 0, .int 0, .int 0, .int 0, .int 0, .ref m_open, .int 0, .ref m_stack, .int 0, .ref m_word, .ref m_said, .int (-1), .int 0, .ref m_goesTo, .ref m_hadBy, .ref m_wasSaid, .int 0, .ref m_kept, .ref m_hasBy, .ref m_standsThen, .ref m_isFit, .ref m_cornerThen, .long 0, .ref m_images, .ref m_imageForce, .ref m_imageX, .ref m_isMade])), (m_said, .inl (K 0, 127, .inl (fun _ => 0))), (m_images, .inl (K 0, 508, .inl (fun _ => 0))), (m_imageForce, .inl (K 0, 4, .inl (fun _ => 0))), (m_imageX, .inl (K 0, 4, .inl (fun _ => 0))), (m_isMade, .inl (K 3, 4, .inl (fun _ => 0)))] := G
  subst hp
  refine lv_if_ne (tgt := 14) E.1 E.2.1 dX11_image_9 (by decide) (fun _ => ?_) (fun h => absurd h hk)
  refine lv_aload_n E.1 E.2.1 dX11_image_14 rfl (lv_at hl 0 rfl) ?_
  refine m_get E G 0 (ci := 11) rfl 36 (C := RX11) (T := TX11) (N := 37) rfl (by decide) mw_fl_11_80 (v := .ref m_isMade) rfl dX11_image_15 ?_
  refine lv_iload_n E.1 E.2.1 dX11_image_18 rfl (lv_at hl 1 rfl) ?_
  refine lv_iconst (v := 1) E.1 E.2.1 dX11_image_19 (by decide) ?_
  refine m_zast E G 5 rfl hk2 dX11_image_20 (fun H locs G => ?_)
  obtain ⟨f_3, ef_3⟩ : ∃ f_3 : Nat → Int32, f_3 = (upd (fun _ => 0) (p1 : Int32).toNatClampNeg (vp_nar .boolean (1 : Int32))) := ⟨_, rfl⟩
  have G : mG D A s H locs [(h0, .inr (11, [.ref m_tape, .int 0, .int 0, .ref m_sign, .ref m_length, .ref m_clause, .ref m_clauses, .ref m_read, .int 0, .int 0, .int 0, .int 0, .int 0, .int 0, .int 0, .ref m_open, .int 0, .ref m_stack, .int 0, .ref m_word, .ref m_said, .int (-1), .int 0, .ref m_goesTo, .ref m_hadBy, .ref m_wasSaid, .int 0, .ref m_kept, .ref m_hasBy, .ref m_standsThen, .ref m_isFit, .ref m_cornerThen, .long 0, .ref m_images, .ref m_imageForce, .ref m_imageX, .ref m_isMade])), (m_said, .inl (K 0, 127, .inl (fun _ => 0))), (m_images, .inl (K 0, 508, .inl (fun _ => 0))), (m_imageForce, .inl (K 0, 4, .inl (fun _ => 0))), (m_imageX, .inl (K 0, 4, .inl (fun _ => 0))), (m_isMade, .inl (K 3, 4, .inl f_3))] := by subst ef_3; exact G
  clear ef_3
  refine lv_aload_n E.1 E.2.1 dX11_image_21 rfl (lv_at hl 0 rfl) ?_
  refine m_get E G 0 (ci := 11) rfl 34 (C := RX11) (T := TX11) (N := 37) rfl (by decide) mw_fl_11_74 (v := .ref m_imageForce) rfl dX11_image_22 ?_
  refine lv_iload_n E.1 E.2.1 dX11_image_25 rfl (lv_at hl 1 rfl) ?_
  refine lv_aload_n E.1 E.2.1 dX11_image_26 rfl (lv_at hl 0 rfl) ?_
  refine m_get E G 0 (ci := 11) rfl 21 (C := RX11) (T := TX11) (N := 37) rfl (by decide) mw_fl_11_42 (v := .int (-1)) rfl dX11_image_27 ?_
  refine m_iast E G 3 rfl hk2 dX11_image_30 (fun H locs G => ?_)
  obtain ⟨f_4, ef_4⟩ : ∃ f_4 : Nat → Int32, f_4 = (upd (fun _ => 0) (p1 : Int32).toNatClampNeg (-1 : Int32)) := ⟨_, rfl⟩
  have G : mG D A s H locs [(h0, .inr (11, [.ref m_tape, .int 0, .int 0, .ref m_sign, .ref m_length, .ref m_clause, .ref m_clauses, .ref m_read, .int 0, .int 0, .int 0, .int 0, .int 0, .int 0, .int 0, .ref m_open, .int 0, .ref m_stack, .int 0, .ref m_word, .ref m_said, .int (-1), .int 0, .ref m_goesTo, .ref m_hadBy, .ref m_wasSaid, .int 0, .ref m_kept, .ref m_hasBy, .ref m_standsThen, .ref m_isFit, .ref m_cornerThen, .long 0, .ref m_images, .ref m_imageForce, .ref m_imageX, .ref m_isMade])), (m_said, .inl (K 0, 127, .inl (fun _ => 0))), (m_images, .inl (K 0, 508, .inl (fun _ => 0))), (m_imageForce, .inl (K 0, 4, .inl f_4)), (m_imageX, .inl (K 0, 4, .inl (fun _ => 0))), (m_isMade, .inl (K 3, 4, .inl f_3))] := by subst ef_4; exact G
  clear ef_4
  refine lv_aload_n E.1 E.2.1 dX11_image_31 rfl (lv_at hl 0 rfl) ?_
  refine m_get E G 0 (ci := 11) rfl 35 (C := RX11) (T := TX11) (N := 37) rfl (by decide) mw_fl_11_77 (v := .ref m_imageX) rfl dX11_image_32 ?_
  refine lv_iload_n E.1 E.2.1 dX11_image_35 rfl (lv_at hl 1 rfl) ?_
  refine lv_aload_n E.1 E.2.1 dX11_image_36 rfl (lv_at hl 0 rfl) ?_
  refine m_get E G 0 (ci := 11) rfl 22 (C := RX11) (T := TX11) (N := 37) rfl (by decide) mw_fl_11_446 (v := .int 0) rfl dX11_image_37 ?_
  refine m_iast E G 4 rfl hk2 dX11_image_40 (fun H locs G => ?_)
  obtain ⟨f_5, ef_5⟩ : ∃ f_5 : Nat → Int32, f_5 = (upd (fun _ => 0) (p1 : Int32).toNatClampNeg (0 : Int32)) := ⟨_, rfl⟩
  have G : mG D A s H locs [(h0, .inr (11, [.ref m_tape, .int 0, .int 0, .ref m_sign, .ref m_length, .ref m_clause, .ref m_clauses, .ref m_read, .int 0, .int 0, .int 0, .int 0, .int 0, .int 0, .int 0, .ref m_open, .int 0, .ref m_stack, .int 0, .ref m_word, .ref m_said, .int (-1), .int 0, .ref m_goesTo, .ref m_hadBy, .ref m_wasSaid, .int 0, .ref m_kept, .ref m_hasBy, .ref m_standsThen, .ref m_isFit, .ref m_cornerThen, .long 0, .ref m_images, .ref m_imageForce, .ref m_imageX, .ref m_isMade])), (m_said, .inl (K 0, 127, .inl (fun _ => 0))), (m_images, .inl (K 0, 508, .inl (fun _ => 0))), (m_imageForce, .inl (K 0, 4, .inl f_4)), (m_imageX, .inl (K 0, 4, .inl f_5)), (m_isMade, .inl (K 3, 4, .inl f_3))] := by subst ef_5; exact G
  clear ef_5
  refine lv_iconst (v := 0) E.1 E.2.1 dX11_image_41 (by decide) ?_
  refine lv_istore_n (lv' := [(2, .int 0), (0, .ref h0), (1, .int p1)]) E.1 E.2.1 dX11_image_42 rfl hl (by decide) rfl (fun ls hl => ?_)
  refine loop_image h0 m_tape m_sign m_length m_clause m_clauses m_read m_open m_stack m_word m_said m_goesTo m_hadBy m_wasSaid m_kept m_hasBy m_standsThen m_isFit m_cornerThen m_images m_imageForce m_imageX m_isMade f_4 f_5 f_3 p1 hb E (fun H locs ls f_6 G hl => ?_) 127 0 rfl H locs ls _ G hl
  have hl : lv_has ls 3 [(2, .int 127), (0, .ref h0), (1, .int p1)] := hl
  refine lv_aload_n E.1 E.2.1 dX11_image_72 rfl (lv_at hl 1 rfl) ?_
  refine m_get E G 0 (ci := 11) rfl 20 (C := RX11) (T := TX11) (N := 37) rfl (by decide) mw_fl_11_39 (v := .ref m_said) rfl dX11_image_73 ?_
  refine lv_bipush (v := 10) E.1 E.2.1 dX11_image_76 (by decide) ?_
  refine m_iald E G 1 rfl (by unfold vp_in; decide) dX11_image_78 ?_
  refine m_ci 0 rfl ?_
  exact m_reti E G hr rfl (fun _ => 0, fun _ _ => 0, fun _ _ => none) rfl [] (by decide) rfl (by decide) (by decide) dX11_image_79
set_option maxHeartbeats 4000000 in
set_option maxRecDepth 100000 in
theorem r_image_o (l : Launch) (D : va_G) (K : Nat → ClassId) (h0 : Nat) (m_tape : Nat) (m_sign : Nat) (m_length : Nat) (m_clause : Nat) (m_clauses : Nat) (m_read : Nat) (m_open : Nat) (m_stack : Nat) (m_word : Nat) (m_said : Nat) (m_goesTo : Nat) (m_hadBy : Nat) (m_wasSaid : Nat) (m_kept : Nat) (m_hasBy : Nat) (m_standsThen : Nat) (m_isFit : Nat) (m_cornerThen : Nat) (m_images : Nat) (m_imageForce : Nat) (m_imageX : Nat) (m_isMade : Nat) (p1 : Int32) (hk : ans_in (p1.toInt64) 0 3 = 0) : mI (S := mU) l yX11_image cX11_image 3 .int ({ frames := 1, cells := 0, slots := 0, locals := 25 }) D K [(h0, .inr (11, [.ref m_tape, .int 0, .int 0, .ref m_sign, .ref m_length, .ref m_clause, .ref m_clauses, .ref m_read, .int 0, .int 0, .int 0, .int 0, .int 0, .int 0, .int 0, .ref m_open, .int 0, .ref m_stack, .int 0, .ref m_word, .ref m_said, .int (-1), .int 0, .ref m_goesTo, .ref m_hadBy, .ref m_wasSaid, .int 0, .ref m_kept, .ref m_hasBy, .ref m_standsThen, .ref m_isFit, .ref m_cornerThen, .long 0, .ref m_images, .ref m_imageForce, .ref m_imageX, .ref m_isMade]))] [.ref h0, .int p1] (fun r u => r = (-1)) (fun u => []) := by
  refine m_enterI (by decide) (Nat.le_of_ble_eq_true rfl) ?_
  intro p e s m args below meth c A ls E hr G hl
  have E : mE p s m meth c cX11_image args 3 RX11 D K A := E
  have hl : lv_has ls 3 [(0, .ref h0), (1, .int p1)] := hl
  obtain ⟨H, hH⟩ : ∃ H, H = s.heap := ⟨_, rfl⟩
  obtain ⟨locs, hlo⟩ : ∃ L : List Loc, L = [] := ⟨_, rfl⟩
  rw [← hH, ← hlo] at G
  rw [← hH, ← hlo]
  have G : mG D A s H locs [(h0, .inr (11, [.ref m_tape, .int 0, .int 0, .ref m_sign, .ref m_length, .ref m_clause, .ref m_clauses, .ref m_read, .int 0, .int 0, .int 0, .int 0, .int 0, .int 0, .int 0, .ref m_open, .int 0, .ref m_stack, .int 0, .ref m_word, .ref m_said, .int (-1), .int 0, .ref m_goesTo, .ref m_hadBy, .ref m_wasSaid, .int 0, .ref m_kept, .ref m_hasBy, .ref m_standsThen, .ref m_isFit, .ref m_cornerThen, .long 0, .ref m_images, .ref m_imageForce, .ref m_imageX, .ref m_isMade]))] := G
  clear hH hlo
  refine lv_iload_n E.1 E.2.1 dX11_image_0 rfl (lv_at hl 1 rfl) ?_
  refine lv_i2l E.1 E.2.1 dX11_image_1 rfl ?_
  refine lv_lconst (v := 0) E.1 E.2.1 dX11_image_2 (by decide) ?_
  refine lv_ldc2 (v := 3) E.1 E.2.1 E.2.2.2.1 (E.2.2.2.2.1 _ mw_cL_11_469) dX11_image_3 ?_
  refine m_si E G hl (r_in l D K (p1.toInt64) 0 3) (wr := [(h0, .inr (11, [.ref m_tape, .int 0, .int 0, .ref m_sign, .ref m_length, .ref m_clause, .ref m_clauses, .ref m_read, .int 0, .int 0, .int 0, .int 0, .int 0, .int 0, .int 0, .ref m_open, .int 0, .ref m_stack, .int 0, .ref m_word, .ref m_said, .int (-1), .int 0, .ref m_goesTo, .ref m_hadBy, .ref m_wasSaid, .int 0, .ref m_kept, .ref m_hasBy, .ref m_standsThen, .ref m_isFit, .ref m_cornerThen, .long 0, .ref m_images, .ref m_imageForce, .ref m_imageX, .ref m_isMade]))]) [] [0] rfl rfl (by decide) (by decide) (by decide) 3 rfl mw_code_X11_in mw_ini_11 mw_ml_11_121 mw_stat_X11_in hd_X11_in ⟨by decide, by decide⟩ rfl (Nat.le_of_ble_eq_true rfl) ⟨by decide, by decide⟩ dX11_image_6 (fun r_2 u_1 H locs hp G => ?_)
  have G : mG D A s H locs [(h0, .inr (11, [.ref m_tape, .int 0, .int 0, .ref m_sign, .ref m_length, .ref m_clause, .ref m_clauses, .ref m_read, .int 0, .int 0, .int 0, .int 0, .int 0, .int 0, .int 0, .ref m_open, .int 0, .ref m_stack, .int 0, .ref m_word, .ref m_said, .int (-1), .int 0, .ref m_goesTo, .ref m_hadBy, .ref m_wasSaid, .int 0, .ref m_kept, .ref m_hasBy, .ref m_standsThen, .ref m_isFit, .ref m_cornerThen, .long 0, .ref m_images, .ref m_imageForce, .ref m_imageX, .ref m_isMade]))] := G
  subst hp
  refine lv_if_ne (tgt := 14) E.1 E.2.1 dX11_image_9 (by decide) (fun h => absurd hk h) (fun _ => ?_)
  refine lv_iconst (v := (-1)) E.1 E.2.1 dX11_image_12 (by decide) ?_
  exact m_reti E G hr rfl (fun _ => 0, fun _ _ => 0, fun _ _ => none) rfl [] (by decide) rfl (by decide) (by decide) dX11_image_13
