theorem mw_code_X11_charges : (Cond.code yX11_charges cX11_charges 3 (some .int) : Cond) ∈ cw := cw_of (List.mem_append_right _ (List.mem_append_right _ (List.mem_append_right _ (List.mem_append_right _ (List.mem_append_right _ (List.mem_append_right _ (List.mem_append_right _ (List.mem_append_left _ (List.mem_of_getElem? (i := 134) rfl))))))))) (by decide +kernel)
theorem mw_code_X11_homeOnes : (Cond.code yX11_homeOnes cX11_homeOnes 3 (some .int) : Cond) ∈ cw := cw_of (List.mem_append_right _ (List.mem_append_right _ (List.mem_append_right _ (List.mem_append_right _ (List.mem_append_right _ (List.mem_append_right _ (List.mem_append_right _ (List.mem_append_right _ (List.mem_of_getElem? (i := 5) rfl))))))))) (by decide +kernel)
theorem mw_code_X11_laidOnes : (Cond.code yX11_laidOnes cX11_laidOnes 3 (some .int) : Cond) ∈ cw := cw_of (List.mem_append_right _ (List.mem_append_right _ (List.mem_append_right _ (List.mem_append_right _ (List.mem_append_right _ (List.mem_append_right _ (List.mem_append_right _ (List.mem_append_left _ (List.mem_of_getElem? (i := 83) rfl))))))))) (by decide +kernel)
theorem mw_inst_X11_charges : (Cond.instanceMethod yX11_charges : Cond) ∈ cw := cw_of (List.mem_append_right _ (List.mem_append_right _ (List.mem_append_right _ (List.mem_append_right _ (List.mem_append_right _ (List.mem_append_right _ (List.mem_append_right _ (List.mem_append_left _ (List.mem_of_getElem? (i := 133) (by decide +kernel)))))))))) (by decide +kernel)
theorem mw_inst_X11_homeOnes : (Cond.instanceMethod yX11_homeOnes : Cond) ∈ cw := cw_of (List.mem_append_right _ (List.mem_append_right _ (List.mem_append_right _ (List.mem_append_right _ (List.mem_append_right _ (List.mem_append_right _ (List.mem_append_right _ (List.mem_append_right _ (List.mem_of_getElem? (i := 4) (by decide +kernel)))))))))) (by decide +kernel)
theorem mw_inst_X11_laidOnes : (Cond.instanceMethod yX11_laidOnes : Cond) ∈ cw := cw_of (List.mem_append_right _ (List.mem_append_right _ (List.mem_append_right _ (List.mem_append_right _ (List.mem_append_right _ (List.mem_append_right _ (List.mem_append_right _ (List.mem_append_left _ (List.mem_of_getElem? (i := 82) (by decide +kernel)))))))))) (by decide +kernel)
theorem mw_ml_11_379 : (Cond.methodLink RX11 379 yX11_laidOnes : Cond) ∈ cw := cw_of (List.mem_append_right _ (List.mem_append_right _ (List.mem_append_right _ (List.mem_append_right _ (List.mem_append_right _ (List.mem_append_right _ (List.mem_append_right _ (List.mem_append_left _ (List.mem_of_getElem? (i := 80) (by decide +kernel)))))))))) (by decide +kernel)
theorem mw_ml_11_394 : (Cond.methodLink RX11 394 yX11_charges : Cond) ∈ cw := cw_of (List.mem_append_right _ (List.mem_append_right _ (List.mem_append_right _ (List.mem_append_right _ (List.mem_append_right _ (List.mem_append_right _ (List.mem_append_right _ (List.mem_append_left _ (List.mem_of_getElem? (i := 131) (by decide +kernel)))))))))) (by decide +kernel)
theorem mw_ml_11_466 : (Cond.methodLink RX11 466 yX11_homeOnes : Cond) ∈ cw := cw_of (List.mem_append_right _ (List.mem_append_right _ (List.mem_append_right _ (List.mem_append_right _ (List.mem_append_right _ (List.mem_append_right _ (List.mem_append_right _ (List.mem_append_right _ (List.mem_of_getElem? (i := 2) (by decide +kernel)))))))))) (by decide +kernel)
theorem mw_sel_X11_charges : (Cond.selects RX11 yX11_charges yX11_charges : Cond) ∈ cw := cw_of (List.mem_append_left _ (List.mem_of_getElem? (i := 113) (by decide +kernel))) (by decide +kernel)
theorem mw_sel_X11_homeOnes : (Cond.selects RX11 yX11_homeOnes yX11_homeOnes : Cond) ∈ cw := cw_of (List.mem_append_left _ (List.mem_of_getElem? (i := 125) (by decide +kernel))) (by decide +kernel)
theorem mw_sel_X11_laidOnes : (Cond.selects RX11 yX11_laidOnes yX11_laidOnes : Cond) ∈ cw := cw_of (List.mem_append_left _ (List.mem_of_getElem? (i := 108) (by decide +kernel))) (by decide +kernel)
theorem dX11_count_0 : decode cX11_count 0 = .ok (.iload_n 1, 1) := by decide +kernel
theorem dX11_count_1 : decode cX11_count 1 = .ok (.tableswitch 136 0 13 #[71, 71, 71, 71, 80, 85, 90, 98, 103, 108, 113, 121, 126, 131], 71) := by decide +kernel
theorem dX11_count_72 : decode cX11_count 72 = .ok (.aload_n 0, 1) := by decide +kernel
theorem dX11_count_73 : decode cX11_count 73 = .ok (.getfield 39, 3) := by decide +kernel
theorem dX11_count_76 : decode cX11_count 76 = .ok (.iload_n 1, 1) := by decide +kernel
theorem dX11_count_77 : decode cX11_count 77 = .ok (.iconst 1, 1) := by decide +kernel
theorem dX11_count_78 : decode cX11_count 78 = .ok (.iadd, 1) := by decide +kernel
theorem dX11_count_79 : decode cX11_count 79 = .ok (.iaload, 1) := by decide +kernel
theorem dX11_count_80 : decode cX11_count 80 = .ok (.ireturn, 1) := by decide +kernel
theorem dX11_count_81 : decode cX11_count 81 = .ok (.aload_n 0, 1) := by decide +kernel
theorem dX11_count_82 : decode cX11_count 82 = .ok (.getfield 258, 3) := by decide +kernel
theorem dX11_count_85 : decode cX11_count 85 = .ok (.ireturn, 1) := by decide +kernel
theorem dX11_count_86 : decode cX11_count 86 = .ok (.aload_n 0, 1) := by decide +kernel
theorem dX11_count_87 : decode cX11_count 87 = .ok (.getfield 42, 3) := by decide +kernel
theorem dX11_count_90 : decode cX11_count 90 = .ok (.ireturn, 1) := by decide +kernel
theorem dX11_count_91 : decode cX11_count 91 = .ok (.aload_n 0, 1) := by decide +kernel
theorem dX11_count_92 : decode cX11_count 92 = .ok (.getfield 39, 3) := by decide +kernel
theorem dX11_count_95 : decode cX11_count 95 = .ok (.bipush 10, 2) := by decide +kernel
theorem dX11_count_97 : decode cX11_count 97 = .ok (.iaload, 1) := by decide +kernel
theorem dX11_count_98 : decode cX11_count 98 = .ok (.ireturn, 1) := by decide +kernel
theorem dX11_count_99 : decode cX11_count 99 = .ok (.aload_n 0, 1) := by decide +kernel
theorem dX11_count_100 : decode cX11_count 100 = .ok (.invokevirtual 379, 3) := by decide +kernel
theorem dX11_count_103 : decode cX11_count 103 = .ok (.ireturn, 1) := by decide +kernel
theorem dX11_count_104 : decode cX11_count 104 = .ok (.aload_n 0, 1) := by decide +kernel
theorem dX11_count_105 : decode cX11_count 105 = .ok (.invokevirtual 466, 3) := by decide +kernel
theorem dX11_count_108 : decode cX11_count 108 = .ok (.ireturn, 1) := by decide +kernel
theorem dX11_count_109 : decode cX11_count 109 = .ok (.aload_n 0, 1) := by decide +kernel
theorem dX11_count_110 : decode cX11_count 110 = .ok (.invokevirtual 394, 3) := by decide +kernel
theorem dX11_count_113 : decode cX11_count 113 = .ok (.ireturn, 1) := by decide +kernel
theorem dX11_count_114 : decode cX11_count 114 = .ok (.aload_n 0, 1) := by decide +kernel
theorem dX11_count_115 : decode cX11_count 115 = .ok (.getfield 39, 3) := by decide +kernel
theorem dX11_count_118 : decode cX11_count 118 = .ok (.bipush 126, 2) := by decide +kernel
theorem dX11_count_120 : decode cX11_count 120 = .ok (.iaload, 1) := by decide +kernel
theorem dX11_count_121 : decode cX11_count 121 = .ok (.ireturn, 1) := by decide +kernel
theorem dX11_count_122 : decode cX11_count 122 = .ok (.aload_n 0, 1) := by decide +kernel
theorem dX11_count_123 : decode cX11_count 123 = .ok (.getfield 267, 3) := by decide +kernel
theorem dX11_count_126 : decode cX11_count 126 = .ok (.ireturn, 1) := by decide +kernel
theorem dX11_count_127 : decode cX11_count 127 = .ok (.aload_n 0, 1) := by decide +kernel
theorem dX11_count_128 : decode cX11_count 128 = .ok (.getfield 446, 3) := by decide +kernel
theorem dX11_count_131 : decode cX11_count 131 = .ok (.ireturn, 1) := by decide +kernel
theorem dX11_count_132 : decode cX11_count 132 = .ok (.aload_n 0, 1) := by decide +kernel
theorem dX11_count_133 : decode cX11_count 133 = .ok (.getfield 83, 3) := by decide +kernel
theorem dX11_count_136 : decode cX11_count 136 = .ok (.ireturn, 1) := by decide +kernel
theorem dX11_count_137 : decode cX11_count 137 = .ok (.iconst (-1), 1) := by decide +kernel
theorem dX11_count_138 : decode cX11_count 138 = .ok (.ireturn, 1) := by decide +kernel
theorem hd_X11_charges : yX11_charges.cls ≠ "java/lang/invoke/MethodHandle" ∧ yX11_charges.cls ≠ "java/lang/invoke/VarHandle" ∧ (parseMethodDescriptor yX11_charges.desc).map (fun d => d.parameters.length) = some 0 := ⟨by decide +kernel, by decide +kernel, by decide +kernel⟩
theorem hd_X11_homeOnes : yX11_homeOnes.cls ≠ "java/lang/invoke/MethodHandle" ∧ yX11_homeOnes.cls ≠ "java/lang/invoke/VarHandle" ∧ (parseMethodDescriptor yX11_homeOnes.desc).map (fun d => d.parameters.length) = some 0 := ⟨by decide +kernel, by decide +kernel, by decide +kernel⟩
theorem hd_X11_laidOnes : yX11_laidOnes.cls ≠ "java/lang/invoke/MethodHandle" ∧ yX11_laidOnes.cls ≠ "java/lang/invoke/VarHandle" ∧ (parseMethodDescriptor yX11_laidOnes.desc).map (fun d => d.parameters.length) = some 0 := ⟨by decide +kernel, by decide +kernel, by decide +kernel⟩
set_option maxHeartbeats 4000000 in
set_option maxRecDepth 100000 in
theorem r_count (l : Launch) (D : va_G) (K : Nat → ClassId) (h0 : Nat) (m_tape : Nat) (m_sign : Nat) (m_length : Nat) (m_clause : Nat) (m_clauses : Nat) (m_read : Nat) (m_open : Nat) (m_stack : Nat) (m_word : Nat) (m_said : Nat) (m_goesTo : Nat) (m_hadBy : Nat) (m_wasSaid : Nat) (m_kept : Nat) (m_hasBy : Nat) (m_standsThen : Nat) (m_isFit : Nat) (m_cornerThen : Nat) (m_images : Nat) (m_imageForce : Nat) (m_imageX : Nat) (m_isMade : Nat) (p1 : Int32) : mI (S := mU) l yX11_count cX11_count 2 .int ({ frames := 1, cells := 0, slots := 0, locals := 22 }) D K [(h0, .inr (11, [.ref m_tape, .int 0, .int 0, .ref m_sign, .ref m_length, .ref m_clause, .ref m_clauses, .ref m_read, .int 0, .int 0, .int 0, .int 0, .int 0, .int 0, .int 0, .ref m_open, .int 0, .ref m_stack, .int 0, .ref m_word, .ref m_said, .int (-1), .int 0, .ref m_goesTo, .ref m_hadBy, .ref m_wasSaid, .int 0, .ref m_kept, .ref m_hasBy, .ref m_standsThen, .ref m_isFit, .ref m_cornerThen, .long 0, .ref m_images, .ref m_imageForce, .ref m_imageX, .ref m_isMade])), (m_said, .inl (K 0, 127, .inl (fun _ => 0)))] [.ref h0, .int p1] (fun r u => r = ans_count p1) (fun u => []) := by
  refine m_enterI (by decide) (Nat.le_of_ble_eq_true rfl) ?_
  intro p e s m args below meth c A ls E hr G hl
  have E : mE p s m meth c cX11_count args 2 RX11 D K A := E
  have hl : lv_has ls 2 [(0, .ref h0), (1, .int p1)] := hl
  obtain ⟨H, hH⟩ : ∃ H, H = s.heap := ⟨_, rfl⟩
  obtain ⟨locs, hlo⟩ : ∃ L : List Loc, L = [] := ⟨_, rfl⟩
  rw [← hH, ← hlo] at G
  rw [← hH, ← hlo]
  have G : mG D A s H locs [(h0, .inr (11, [.ref m_tape, .int 0, .int 0, .ref m_sign, .ref m_length, .ref m_clause, .ref m_clauses, .ref m_read, .int 0, .int 0, .int 0, .int 0, .int 0, .int 0, .int 0, .ref m_open, .int 0, .ref m_stack, .int 0, .ref m_word, .ref m_said, .int (-1), .int 0, .ref m_goesTo, .ref m_hadBy, .ref m_wasSaid, .int 0, .ref m_kept, .ref m_hasBy, .ref m_standsThen, .ref m_isFit, .ref m_cornerThen, .long 0, .ref m_images, .ref m_imageForce, .ref m_imageX, .ref m_isMade])), (m_said, .inl (K 0, 127, .inl (fun _ => 0)))] := G
  clear hH hlo
  refine lv_iload_n E.1 E.2.1 dX11_count_0 rfl (lv_at hl 1 rfl) ?_
  rcases Decidable.em (p1.toInt < 0 ∨ 13 < p1.toInt) with c_1 | c_1
  · refine lv_tableOut (tgt := 137) E.1 E.2.1 dX11_count_1 c_1 (by decide) ?_
    refine lv_iconst (v := (-1)) E.1 E.2.1 dX11_count_137 (by decide) ?_
    exact m_reti E G hr rfl (fun _ => 0, fun _ _ => 0, fun _ _ => none) (by first | exact ans_count_1 ‹_› | rfl | decide) [] (by decide) rfl (by decide) (by decide) dX11_count_138
  · rcases sw_13 p1 (fun h => c_1 (Or.inl h)) (fun h => c_1 (Or.inr h)) with rfl | rfl | rfl | rfl | rfl | rfl | rfl | rfl | rfl | rfl | rfl | rfl | rfl | rfl
    · refine lv_tableIn (off := 71) (tgt := 72) E.1 E.2.1 dX11_count_1 (by decide) (by decide) (by decide) (by decide) ?_
      refine lv_aload_n E.1 E.2.1 dX11_count_72 rfl (lv_at hl 0 rfl) ?_
      refine m_get E G 0 (ci := 11) rfl 20 (C := RX11) (T := TX11) (N := 37) rfl (by decide) mw_fl_11_39 (v := .ref m_said) rfl dX11_count_73 ?_
      refine lv_iload_n E.1 E.2.1 dX11_count_76 rfl (lv_at hl 1 rfl) ?_
      refine lv_iconst (v := 1) E.1 E.2.1 dX11_count_77 (by decide) ?_
      refine lv_iadd E.1 E.2.1 dX11_count_78 ?_
      refine m_ci 1 (by decide) ?_
      refine m_iald E G 1 rfl (by unfold vp_in; decide) dX11_count_79 ?_
      refine m_ci 0 rfl ?_
      exact m_reti E G hr rfl (fun _ => 0, fun _ _ => 0, fun _ _ => none) (by first | exact ans_count_1 ‹_› | rfl | decide) [] (by decide) rfl (by decide) (by decide) dX11_count_80
    · refine lv_tableIn (off := 71) (tgt := 72) E.1 E.2.1 dX11_count_1 (by decide) (by decide) (by decide) (by decide) ?_
      refine lv_aload_n E.1 E.2.1 dX11_count_72 rfl (lv_at hl 0 rfl) ?_
      refine m_get E G 0 (ci := 11) rfl 20 (C := RX11) (T := TX11) (N := 37) rfl (by decide) mw_fl_11_39 (v := .ref m_said) rfl dX11_count_73 ?_
      refine lv_iload_n E.1 E.2.1 dX11_count_76 rfl (lv_at hl 1 rfl) ?_
      refine lv_iconst (v := 1) E.1 E.2.1 dX11_count_77 (by decide) ?_
      refine lv_iadd E.1 E.2.1 dX11_count_78 ?_
      refine m_ci 2 (by decide) ?_
      refine m_iald E G 1 rfl (by unfold vp_in; decide) dX11_count_79 ?_
      refine m_ci 0 rfl ?_
      exact m_reti E G hr rfl (fun _ => 0, fun _ _ => 0, fun _ _ => none) (by first | exact ans_count_1 ‹_› | rfl | decide) [] (by decide) rfl (by decide) (by decide) dX11_count_80
    · refine lv_tableIn (off := 71) (tgt := 72) E.1 E.2.1 dX11_count_1 (by decide) (by decide) (by decide) (by decide) ?_
      refine lv_aload_n E.1 E.2.1 dX11_count_72 rfl (lv_at hl 0 rfl) ?_
      refine m_get E G 0 (ci := 11) rfl 20 (C := RX11) (T := TX11) (N := 37) rfl (by decide) mw_fl_11_39 (v := .ref m_said) rfl dX11_count_73 ?_
      refine lv_iload_n E.1 E.2.1 dX11_count_76 rfl (lv_at hl 1 rfl) ?_
      refine lv_iconst (v := 1) E.1 E.2.1 dX11_count_77 (by decide) ?_
      refine lv_iadd E.1 E.2.1 dX11_count_78 ?_
      refine m_ci 3 (by decide) ?_
      refine m_iald E G 1 rfl (by unfold vp_in; decide) dX11_count_79 ?_
      refine m_ci 0 rfl ?_
      exact m_reti E G hr rfl (fun _ => 0, fun _ _ => 0, fun _ _ => none) (by first | exact ans_count_1 ‹_› | rfl | decide) [] (by decide) rfl (by decide) (by decide) dX11_count_80
    · refine lv_tableIn (off := 71) (tgt := 72) E.1 E.2.1 dX11_count_1 (by decide) (by decide) (by decide) (by decide) ?_
      refine lv_aload_n E.1 E.2.1 dX11_count_72 rfl (lv_at hl 0 rfl) ?_
      refine m_get E G 0 (ci := 11) rfl 20 (C := RX11) (T := TX11) (N := 37) rfl (by decide) mw_fl_11_39 (v := .ref m_said) rfl dX11_count_73 ?_
      refine lv_iload_n E.1 E.2.1 dX11_count_76 rfl (lv_at hl 1 rfl) ?_
      refine lv_iconst (v := 1) E.1 E.2.1 dX11_count_77 (by decide) ?_
      refine lv_iadd E.1 E.2.1 dX11_count_78 ?_
      refine m_ci 4 (by decide) ?_
      refine m_iald E G 1 rfl (by unfold vp_in; decide) dX11_count_79 ?_
      refine m_ci 0 rfl ?_
      exact m_reti E G hr rfl (fun _ => 0, fun _ _ => 0, fun _ _ => none) (by first | exact ans_count_1 ‹_› | rfl | decide) [] (by decide) rfl (by decide) (by decide) dX11_count_80
    · refine lv_tableIn (off := 80) (tgt := 81) E.1 E.2.1 dX11_count_1 (by decide) (by decide) (by decide) (by decide) ?_
      refine lv_aload_n E.1 E.2.1 dX11_count_81 rfl (lv_at hl 0 rfl) ?_
      refine m_get E G 0 (ci := 11) rfl 2 (C := RX11) (T := TX11) (N := 37) rfl (by decide) mw_fl_11_258 (v := .int 0) rfl dX11_count_82 ?_
      exact m_reti E G hr rfl (fun _ => 0, fun _ _ => 0, fun _ _ => none) (by first | exact ans_count_1 ‹_› | rfl | decide) [] (by decide) rfl (by decide) (by decide) dX11_count_85
    · refine lv_tableIn (off := 85) (tgt := 86) E.1 E.2.1 dX11_count_1 (by decide) (by decide) (by decide) (by decide) ?_
      refine lv_aload_n E.1 E.2.1 dX11_count_86 rfl (lv_at hl 0 rfl) ?_
      refine m_get E G 0 (ci := 11) rfl 21 (C := RX11) (T := TX11) (N := 37) rfl (by decide) mw_fl_11_42 (v := .int (-1)) rfl dX11_count_87 ?_
      exact m_reti E G hr rfl (fun _ => 0, fun _ _ => 0, fun _ _ => none) (by first | exact ans_count_1 ‹_› | rfl | decide) [] (by decide) rfl (by decide) (by decide) dX11_count_90
    · refine lv_tableIn (off := 90) (tgt := 91) E.1 E.2.1 dX11_count_1 (by decide) (by decide) (by decide) (by decide) ?_
      refine lv_aload_n E.1 E.2.1 dX11_count_91 rfl (lv_at hl 0 rfl) ?_
      refine m_get E G 0 (ci := 11) rfl 20 (C := RX11) (T := TX11) (N := 37) rfl (by decide) mw_fl_11_39 (v := .ref m_said) rfl dX11_count_92 ?_
      refine lv_bipush (v := 10) E.1 E.2.1 dX11_count_95 (by decide) ?_
      refine m_iald E G 1 rfl (by unfold vp_in; decide) dX11_count_97 ?_
      refine m_ci 0 rfl ?_
      exact m_reti E G hr rfl (fun _ => 0, fun _ _ => 0, fun _ _ => none) (by first | exact ans_count_1 ‹_› | rfl | decide) [] (by decide) rfl (by decide) (by decide) dX11_count_98
    · refine lv_tableIn (off := 98) (tgt := 99) E.1 E.2.1 dX11_count_1 (by decide) (by decide) (by decide) (by decide) ?_
      refine lv_aload_n E.1 E.2.1 dX11_count_99 rfl (lv_at hl 0 rfl) ?_
      refine m_vi E G hl (r_laidOnes l D K h0 m_tape m_sign m_length m_clause m_clauses m_read m_open m_stack m_word m_said m_goesTo m_hadBy m_wasSaid m_kept m_hasBy m_standsThen m_isFit m_cornerThen m_images m_imageForce m_imageX m_isMade) (wr := []) [0, 1] [] rfl rfl (by decide) (by decide) (by decide) 0 (ci := 11) rfl rfl rfl 0 rfl mw_code_X11_laidOnes mw_ini_11 mw_ml_11_379 mw_inst_X11_laidOnes mw_sel_X11_laidOnes hd_X11_laidOnes ⟨by decide, by decide⟩ rfl (Nat.le_of_ble_eq_true rfl) ⟨by decide, by decide⟩ dX11_count_100 (fun r_3 u_2 H locs hp G => ?_)
      have G : mG D A s H locs [] := G
      subst hp
      exact m_reti E G hr rfl (fun _ => 0, fun _ _ => 0, fun _ _ => none) (by first | exact ans_count_1 ‹_› | rfl | decide) [] (by decide) rfl (by decide) (by decide) dX11_count_103
    · refine lv_tableIn (off := 103) (tgt := 104) E.1 E.2.1 dX11_count_1 (by decide) (by decide) (by decide) (by decide) ?_
      refine lv_aload_n E.1 E.2.1 dX11_count_104 rfl (lv_at hl 0 rfl) ?_
      refine m_vi E G hl (r_homeOnes l D K h0 m_tape m_sign m_length m_clause m_clauses m_read m_open m_stack m_word m_said m_goesTo m_hadBy m_wasSaid m_kept m_hasBy m_standsThen m_isFit m_cornerThen m_images m_imageForce m_imageX m_isMade) (wr := []) [0, 1] [] rfl rfl (by decide) (by decide) (by decide) 0 (ci := 11) rfl rfl rfl 0 rfl mw_code_X11_homeOnes mw_ini_11 mw_ml_11_466 mw_inst_X11_homeOnes mw_sel_X11_homeOnes hd_X11_homeOnes ⟨by decide, by decide⟩ rfl (Nat.le_of_ble_eq_true rfl) ⟨by decide, by decide⟩ dX11_count_105 (fun r_5 u_4 H locs hp G => ?_)
      have G : mG D A s H locs [] := G
      subst hp
      exact m_reti E G hr rfl (fun _ => 0, fun _ _ => 0, fun _ _ => none) (by first | exact ans_count_1 ‹_› | rfl | decide) [] (by decide) rfl (by decide) (by decide) dX11_count_108
    · refine lv_tableIn (off := 108) (tgt := 109) E.1 E.2.1 dX11_count_1 (by decide) (by decide) (by decide) (by decide) ?_
      refine lv_aload_n E.1 E.2.1 dX11_count_109 rfl (lv_at hl 0 rfl) ?_
      refine m_vi E G hl (r_charges l D K h0 m_tape m_sign m_length m_clause m_clauses m_read m_open m_stack m_word m_said m_goesTo m_hadBy m_wasSaid m_kept m_hasBy m_standsThen m_isFit m_cornerThen m_images m_imageForce m_imageX m_isMade) (wr := []) [0, 1] [] rfl rfl (by decide) (by decide) (by decide) 0 (ci := 11) rfl rfl rfl 0 rfl mw_code_X11_charges mw_ini_11 mw_ml_11_394 mw_inst_X11_charges mw_sel_X11_charges hd_X11_charges ⟨by decide, by decide⟩ rfl (Nat.le_of_ble_eq_true rfl) ⟨by decide, by decide⟩ dX11_count_110 (fun r_7 u_6 H locs hp G => ?_)
      have G : mG D A s H locs [] := G
      subst hp
      exact m_reti E G hr rfl (fun _ => 0, fun _ _ => 0, fun _ _ => none) (by first | exact ans_count_1 ‹_› | rfl | decide) [] (by decide) rfl (by decide) (by decide) dX11_count_113
    · refine lv_tableIn (off := 113) (tgt := 114) E.1 E.2.1 dX11_count_1 (by decide) (by decide) (by decide) (by decide) ?_
      refine lv_aload_n E.1 E.2.1 dX11_count_114 rfl (lv_at hl 0 rfl) ?_
      refine m_get E G 0 (ci := 11) rfl 20 (C := RX11) (T := TX11) (N := 37) rfl (by decide) mw_fl_11_39 (v := .ref m_said) rfl dX11_count_115 ?_
      refine lv_bipush (v := 126) E.1 E.2.1 dX11_count_118 (by decide) ?_
      refine m_iald E G 1 rfl (by unfold vp_in; decide) dX11_count_120 ?_
      refine m_ci 0 rfl ?_
      exact m_reti E G hr rfl (fun _ => 0, fun _ _ => 0, fun _ _ => none) (by first | exact ans_count_1 ‹_› | rfl | decide) [] (by decide) rfl (by decide) (by decide) dX11_count_121
    · refine lv_tableIn (off := 121) (tgt := 122) E.1 E.2.1 dX11_count_1 (by decide) (by decide) (by decide) (by decide) ?_
      refine lv_aload_n E.1 E.2.1 dX11_count_122 rfl (lv_at hl 0 rfl) ?_
      refine m_get E G 0 (ci := 11) rfl 26 (C := RX11) (T := TX11) (N := 37) rfl (by decide) mw_fl_11_267 (v := .int 0) rfl dX11_count_123 ?_
      exact m_reti E G hr rfl (fun _ => 0, fun _ _ => 0, fun _ _ => none) (by first | exact ans_count_1 ‹_› | rfl | decide) [] (by decide) rfl (by decide) (by decide) dX11_count_126
    · refine lv_tableIn (off := 126) (tgt := 127) E.1 E.2.1 dX11_count_1 (by decide) (by decide) (by decide) (by decide) ?_
      refine lv_aload_n E.1 E.2.1 dX11_count_127 rfl (lv_at hl 0 rfl) ?_
      refine m_get E G 0 (ci := 11) rfl 22 (C := RX11) (T := TX11) (N := 37) rfl (by decide) mw_fl_11_446 (v := .int 0) rfl dX11_count_128 ?_
      exact m_reti E G hr rfl (fun _ => 0, fun _ _ => 0, fun _ _ => none) (by first | exact ans_count_1 ‹_› | rfl | decide) [] (by decide) rfl (by decide) (by decide) dX11_count_131
    · refine lv_tableIn (off := 131) (tgt := 132) E.1 E.2.1 dX11_count_1 (by decide) (by decide) (by decide) (by decide) ?_
      refine lv_aload_n E.1 E.2.1 dX11_count_132 rfl (lv_at hl 0 rfl) ?_
      refine m_get E G 0 (ci := 11) rfl 1 (C := RX11) (T := TX11) (N := 37) rfl (by decide) mw_fl_11_83 (v := .int 0) rfl dX11_count_133 ?_
      exact m_reti E G hr rfl (fun _ => 0, fun _ _ => 0, fun _ _ => none) (by first | exact ans_count_1 ‹_› | rfl | decide) [] (by decide) rfl (by decide) (by decide) dX11_count_136
