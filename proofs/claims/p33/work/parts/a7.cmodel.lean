theorem mw_ml_11_1 : (Cond.methodLink RX11 1 Lib.objectInit : Cond) ∈ cw := cw_of (List.mem_append_right _ (List.mem_append_right _ (List.mem_append_right _ (List.mem_append_right _ (List.mem_append_right _ (List.mem_append_left _ (List.mem_of_getElem? (i := 106) (by decide +kernel)))))))) (by decide +kernel)
theorem dX11_init_0 : decode cX11_init 0 = .ok (.aload_n 0, 1) := by decide +kernel
theorem dX11_init_1 : decode cX11_init 1 = .ok (.invokespecial 1, 3) := by decide +kernel
theorem dX11_init_4 : decode cX11_init 4 = .ok (.aload_n 0, 1) := by decide +kernel
theorem dX11_init_5 : decode cX11_init 5 = .ok (.sipush 400, 3) := by decide +kernel
theorem dX11_init_8 : decode cX11_init 8 = .ok (.newarray .byte, 2) := by decide +kernel
theorem dX11_init_10 : decode cX11_init 10 = .ok (.putfield 7, 3) := by decide +kernel
theorem dX11_init_13 : decode cX11_init 13 = .ok (.aload_n 0, 1) := by decide +kernel
theorem dX11_init_14 : decode cX11_init 14 = .ok (.sipush 2400, 3) := by decide +kernel
theorem dX11_init_17 : decode cX11_init 17 = .ok (.newarray .int, 2) := by decide +kernel
theorem dX11_init_19 : decode cX11_init 19 = .ok (.putfield 13, 3) := by decide +kernel
theorem dX11_init_22 : decode cX11_init 22 = .ok (.aload_n 0, 1) := by decide +kernel
theorem dX11_init_23 : decode cX11_init 23 = .ok (.bipush 7, 2) := by decide +kernel
theorem dX11_init_25 : decode cX11_init 25 = .ok (.newarray .int, 2) := by decide +kernel
theorem dX11_init_27 : decode cX11_init 27 = .ok (.putfield 17, 3) := by decide +kernel
theorem dX11_init_30 : decode cX11_init 30 = .ok (.aload_n 0, 1) := by decide +kernel
theorem dX11_init_31 : decode cX11_init 31 = .ok (.sipush 288, 3) := by decide +kernel
theorem dX11_init_34 : decode cX11_init 34 = .ok (.newarray .int, 2) := by decide +kernel
theorem dX11_init_36 : decode cX11_init 36 = .ok (.putfield 20, 3) := by decide +kernel
theorem dX11_init_39 : decode cX11_init 39 = .ok (.aload_n 0, 1) := by decide +kernel
theorem dX11_init_40 : decode cX11_init 40 = .ok (.bipush 6, 2) := by decide +kernel
theorem dX11_init_42 : decode cX11_init 42 = .ok (.newarray .int, 2) := by decide +kernel
theorem dX11_init_44 : decode cX11_init 44 = .ok (.putfield 23, 3) := by decide +kernel
theorem dX11_init_47 : decode cX11_init 47 = .ok (.aload_n 0, 1) := by decide +kernel
theorem dX11_init_48 : decode cX11_init 48 = .ok (.bipush 96, 2) := by decide +kernel
theorem dX11_init_50 : decode cX11_init 50 = .ok (.newarray .int, 2) := by decide +kernel
theorem dX11_init_52 : decode cX11_init 52 = .ok (.putfield 26, 3) := by decide +kernel
theorem dX11_init_55 : decode cX11_init 55 = .ok (.aload_n 0, 1) := by decide +kernel
theorem dX11_init_56 : decode cX11_init 56 = .ok (.sipush 400, 3) := by decide +kernel
theorem dX11_init_59 : decode cX11_init 59 = .ok (.newarray .int, 2) := by decide +kernel
theorem dX11_init_61 : decode cX11_init 61 = .ok (.putfield 29, 3) := by decide +kernel
theorem dX11_init_64 : decode cX11_init 64 = .ok (.aload_n 0, 1) := by decide +kernel
theorem dX11_init_65 : decode cX11_init 65 = .ok (.bipush 64, 2) := by decide +kernel
theorem dX11_init_67 : decode cX11_init 67 = .ok (.newarray .long, 2) := by decide +kernel
theorem dX11_init_69 : decode cX11_init 69 = .ok (.putfield 32, 3) := by decide +kernel
theorem dX11_init_72 : decode cX11_init 72 = .ok (.aload_n 0, 1) := by decide +kernel
theorem dX11_init_73 : decode cX11_init 73 = .ok (.bipush 11, 2) := by decide +kernel
theorem dX11_init_75 : decode cX11_init 75 = .ok (.newarray .long, 2) := by decide +kernel
theorem dX11_init_77 : decode cX11_init 77 = .ok (.putfield 36, 3) := by decide +kernel
theorem dX11_init_80 : decode cX11_init 80 = .ok (.aload_n 0, 1) := by decide +kernel
theorem dX11_init_81 : decode cX11_init 81 = .ok (.bipush 127, 2) := by decide +kernel
theorem dX11_init_83 : decode cX11_init 83 = .ok (.newarray .int, 2) := by decide +kernel
theorem dX11_init_85 : decode cX11_init 85 = .ok (.putfield 39, 3) := by decide +kernel
theorem dX11_init_88 : decode cX11_init 88 = .ok (.aload_n 0, 1) := by decide +kernel
theorem dX11_init_89 : decode cX11_init 89 = .ok (.iconst (-1), 1) := by decide +kernel
theorem dX11_init_90 : decode cX11_init 90 = .ok (.putfield 42, 3) := by decide +kernel
theorem dX11_init_93 : decode cX11_init 93 = .ok (.aload_n 0, 1) := by decide +kernel
theorem dX11_init_94 : decode cX11_init 94 = .ok (.iconst 5, 1) := by decide +kernel
theorem dX11_init_95 : decode cX11_init 95 = .ok (.newarray .int, 2) := by decide +kernel
theorem dX11_init_97 : decode cX11_init 97 = .ok (.putfield 46, 3) := by decide +kernel
theorem dX11_init_100 : decode cX11_init 100 = .ok (.aload_n 0, 1) := by decide +kernel
theorem dX11_init_101 : decode cX11_init 101 = .ok (.iconst 5, 1) := by decide +kernel
theorem dX11_init_102 : decode cX11_init 102 = .ok (.newarray .int, 2) := by decide +kernel
theorem dX11_init_104 : decode cX11_init 104 = .ok (.putfield 49, 3) := by decide +kernel
theorem dX11_init_107 : decode cX11_init 107 = .ok (.aload_n 0, 1) := by decide +kernel
theorem dX11_init_108 : decode cX11_init 108 = .ok (.sipush 680, 3) := by decide +kernel
theorem dX11_init_111 : decode cX11_init 111 = .ok (.newarray .int, 2) := by decide +kernel
theorem dX11_init_113 : decode cX11_init 113 = .ok (.putfield 52, 3) := by decide +kernel
theorem dX11_init_116 : decode cX11_init 116 = .ok (.aload_n 0, 1) := by decide +kernel
theorem dX11_init_117 : decode cX11_init 117 = .ok (.bipush 34, 2) := by decide +kernel
theorem dX11_init_119 : decode cX11_init 119 = .ok (.newarray .int, 2) := by decide +kernel
theorem dX11_init_121 : decode cX11_init 121 = .ok (.putfield 55, 3) := by decide +kernel
theorem dX11_init_124 : decode cX11_init 124 = .ok (.aload_n 0, 1) := by decide +kernel
theorem dX11_init_125 : decode cX11_init 125 = .ok (.sipush 128, 3) := by decide +kernel
theorem dX11_init_128 : decode cX11_init 128 = .ok (.newarray .int, 2) := by decide +kernel
theorem dX11_init_130 : decode cX11_init 130 = .ok (.putfield 58, 3) := by decide +kernel
theorem dX11_init_133 : decode cX11_init 133 = .ok (.aload_n 0, 1) := by decide +kernel
theorem dX11_init_134 : decode cX11_init 134 = .ok (.sipush 366, 3) := by decide +kernel
theorem dX11_init_137 : decode cX11_init 137 = .ok (.newarray .int, 2) := by decide +kernel
theorem dX11_init_139 : decode cX11_init 139 = .ok (.putfield 61, 3) := by decide +kernel
theorem dX11_init_142 : decode cX11_init 142 = .ok (.aload_n 0, 1) := by decide +kernel
theorem dX11_init_143 : decode cX11_init 143 = .ok (.bipush 7, 2) := by decide +kernel
theorem dX11_init_145 : decode cX11_init 145 = .ok (.newarray .boolean, 2) := by decide +kernel
theorem dX11_init_147 : decode cX11_init 147 = .ok (.putfield 64, 3) := by decide +kernel
theorem dX11_init_150 : decode cX11_init 150 = .ok (.aload_n 0, 1) := by decide +kernel
theorem dX11_init_151 : decode cX11_init 151 = .ok (.bipush 35, 2) := by decide +kernel
theorem dX11_init_153 : decode cX11_init 153 = .ok (.newarray .int, 2) := by decide +kernel
theorem dX11_init_155 : decode cX11_init 155 = .ok (.putfield 68, 3) := by decide +kernel
theorem dX11_init_158 : decode cX11_init 158 = .ok (.aload_n 0, 1) := by decide +kernel
theorem dX11_init_159 : decode cX11_init 159 = .ok (.sipush 508, 3) := by decide +kernel
theorem dX11_init_162 : decode cX11_init 162 = .ok (.newarray .int, 2) := by decide +kernel
theorem dX11_init_164 : decode cX11_init 164 = .ok (.putfield 71, 3) := by decide +kernel
theorem dX11_init_167 : decode cX11_init 167 = .ok (.aload_n 0, 1) := by decide +kernel
theorem dX11_init_168 : decode cX11_init 168 = .ok (.iconst 4, 1) := by decide +kernel
theorem dX11_init_169 : decode cX11_init 169 = .ok (.newarray .int, 2) := by decide +kernel
theorem dX11_init_171 : decode cX11_init 171 = .ok (.putfield 74, 3) := by decide +kernel
theorem dX11_init_174 : decode cX11_init 174 = .ok (.aload_n 0, 1) := by decide +kernel
theorem dX11_init_175 : decode cX11_init 175 = .ok (.iconst 4, 1) := by decide +kernel
theorem dX11_init_176 : decode cX11_init 176 = .ok (.newarray .int, 2) := by decide +kernel
theorem dX11_init_178 : decode cX11_init 178 = .ok (.putfield 77, 3) := by decide +kernel
theorem dX11_init_181 : decode cX11_init 181 = .ok (.aload_n 0, 1) := by decide +kernel
theorem dX11_init_182 : decode cX11_init 182 = .ok (.iconst 4, 1) := by decide +kernel
theorem dX11_init_183 : decode cX11_init 183 = .ok (.newarray .boolean, 2) := by decide +kernel
theorem dX11_init_185 : decode cX11_init 185 = .ok (.putfield 80, 3) := by decide +kernel
theorem dX11_init_188 : decode cX11_init 188 = .ok (.return_, 1) := by decide +kernel
set_option maxHeartbeats 4000000 in
set_option maxRecDepth 100000 in
theorem n_Model (l : Launch) (D : va_G) (K : Nat → ClassId) (h0 : Nat) : mV (S := Nat → Nat) l yX11_init cX11_init 1 ({ frames := 1, cells := 22, slots := 5579, locals := 20 }) D K [(h0, .inr (11, [.null, .int 0, .int 0, .null, .null, .null, .null, .null, .int 0, .int 0, .int 0, .int 0, .int 0, .int 0, .int 0, .null, .int 0, .null, .int 0, .null, .null, .int 0, .int 0, .null, .null, .null, .int 0, .null, .null, .null, .null, .null, .long 0, .null, .null, .null, .null]))] [.ref h0] (fun g => g 386 = h0) (fun g => Bk K 386 23 g) := by
  refine m_enterV (by decide) (Nat.le_of_ble_eq_true rfl) ?_
  intro p e s m args below meth c A ls E hr hN G hl
  have E : mE p s m meth c cX11_init args 1 RX11 D K A := E
  have hl : lv_has ls 1 [(0, .ref h0)] := hl
  obtain ⟨H, hH⟩ : ∃ H, H = s.heap := ⟨_, rfl⟩
  obtain ⟨locs, hlo⟩ : ∃ L : List Loc, L = [] := ⟨_, rfl⟩
  rw [← hH, ← hlo] at G
  rw [← hH, ← hlo]
  clear hH hlo
  obtain ⟨ac0, hac0⟩ : ∃ w : va_W, w = [] := ⟨_, rfl⟩
  have G : mG D A s H locs ((h0, .inr (11, [.null, .int 0, .int 0, .null, .null, .null, .null, .null, .int 0, .int 0, .int 0, .int 0, .int 0, .int 0, .int 0, .null, .int 0, .null, .int 0, .null, .null, .int 0, .int 0, .null, .null, .null, .int 0, .null, .null, .null, .null, .null, .long 0, .null, .null, .null, .null])) :: ac0) := by rw [hac0]; exact G
  refine lv_aload_n E.1 E.2.1 dX11_init_0 rfl (lv_at hl 0 rfl) ?_
  refine m_objInit E hl mw_ml_11_1 dX11_init_1 (by decide) (Nat.le_of_ble_eq_true rfl) (by decide) ?_
  refine lv_aload_n E.1 E.2.1 dX11_init_4 rfl (lv_at hl 0 rfl) ?_
  refine lv_sipush (v := 400) E.1 E.2.1 dX11_init_5 (by decide) ?_
  refine m_newb E G (N' := 400) (by decide) (by decide) (by decide) (by decide) (by decide) dX11_init_8 (fun q1 H G => ?_)
  obtain ⟨ac2, hac2⟩ : ∃ w : va_W, w = ac0 ++ [(q1, .inl (K 1, 400, .inl (fun _ => 0)))] := ⟨_, rfl⟩
  have G : mG D A s H locs ((h0, .inr (11, [.null, .int 0, .int 0, .null, .null, .null, .null, .null, .int 0, .int 0, .int 0, .int 0, .int 0, .int 0, .int 0, .null, .int 0, .null, .int 0, .null, .null, .int 0, .int 0, .null, .null, .null, .int 0, .null, .null, .null, .null, .null, .long 0, .null, .null, .null, .null])) :: ac2) := by rw [hac2]; exact G
  refine m_putF E G hN 0 (ci := 11) rfl 0 (C := RX11) (T := TX11) (N := 37) rfl (by decide) mw_fl_11_7 rfl rfl rfl rfl (Nat.le_of_ble_eq_true rfl) dX11_init_10 (fun H locs G => ?_)
  have G : mG D A s H locs ((h0, .inr (11, [.ref q1, .int 0, .int 0, .null, .null, .null, .null, .null, .int 0, .int 0, .int 0, .int 0, .int 0, .int 0, .int 0, .null, .int 0, .null, .int 0, .null, .null, .int 0, .int 0, .null, .null, .null, .int 0, .null, .null, .null, .null, .null, .long 0, .null, .null, .null, .null])) :: ac2) := G
  refine lv_aload_n E.1 E.2.1 dX11_init_13 rfl (lv_at hl 0 rfl) ?_
  refine lv_sipush (v := 2400) E.1 E.2.1 dX11_init_14 (by decide) ?_
  refine m_newi E G (N' := 2400) (by decide) (by decide) (by decide) (by decide) (by decide) dX11_init_17 (fun q3 H G => ?_)
  obtain ⟨ac4, hac4⟩ : ∃ w : va_W, w = ac2 ++ [(q3, .inl (K 0, 2400, .inl (fun _ => 0)))] := ⟨_, rfl⟩
  have G : mG D A s H locs ((h0, .inr (11, [.ref q1, .int 0, .int 0, .null, .null, .null, .null, .null, .int 0, .int 0, .int 0, .int 0, .int 0, .int 0, .int 0, .null, .int 0, .null, .int 0, .null, .null, .int 0, .int 0, .null, .null, .null, .int 0, .null, .null, .null, .null, .null, .long 0, .null, .null, .null, .null])) :: ac4) := by rw [hac4]; exact G
  refine m_putF E G hN 0 (ci := 11) rfl 3 (C := RX11) (T := TX11) (N := 37) rfl (by decide) mw_fl_11_13 rfl rfl rfl rfl (Nat.le_of_ble_eq_true rfl) dX11_init_19 (fun H locs G => ?_)
  have G : mG D A s H locs ((h0, .inr (11, [.ref q1, .int 0, .int 0, .ref q3, .null, .null, .null, .null, .int 0, .int 0, .int 0, .int 0, .int 0, .int 0, .int 0, .null, .int 0, .null, .int 0, .null, .null, .int 0, .int 0, .null, .null, .null, .int 0, .null, .null, .null, .null, .null, .long 0, .null, .null, .null, .null])) :: ac4) := G
  refine lv_aload_n E.1 E.2.1 dX11_init_22 rfl (lv_at hl 0 rfl) ?_
  refine lv_bipush (v := 7) E.1 E.2.1 dX11_init_23 (by decide) ?_
  refine m_newi E G (N' := 7) (by decide) (by decide) (by decide) (by decide) (by decide) dX11_init_25 (fun q5 H G => ?_)
  obtain ⟨ac6, hac6⟩ : ∃ w : va_W, w = ac4 ++ [(q5, .inl (K 0, 7, .inl (fun _ => 0)))] := ⟨_, rfl⟩
  have G : mG D A s H locs ((h0, .inr (11, [.ref q1, .int 0, .int 0, .ref q3, .null, .null, .null, .null, .int 0, .int 0, .int 0, .int 0, .int 0, .int 0, .int 0, .null, .int 0, .null, .int 0, .null, .null, .int 0, .int 0, .null, .null, .null, .int 0, .null, .null, .null, .null, .null, .long 0, .null, .null, .null, .null])) :: ac6) := by rw [hac6]; exact G
  refine m_putF E G hN 0 (ci := 11) rfl 4 (C := RX11) (T := TX11) (N := 37) rfl (by decide) mw_fl_11_17 rfl rfl rfl rfl (Nat.le_of_ble_eq_true rfl) dX11_init_27 (fun H locs G => ?_)
  have G : mG D A s H locs ((h0, .inr (11, [.ref q1, .int 0, .int 0, .ref q3, .ref q5, .null, .null, .null, .int 0, .int 0, .int 0, .int 0, .int 0, .int 0, .int 0, .null, .int 0, .null, .int 0, .null, .null, .int 0, .int 0, .null, .null, .null, .int 0, .null, .null, .null, .null, .null, .long 0, .null, .null, .null, .null])) :: ac6) := G
  refine lv_aload_n E.1 E.2.1 dX11_init_30 rfl (lv_at hl 0 rfl) ?_
  refine lv_sipush (v := 288) E.1 E.2.1 dX11_init_31 (by decide) ?_
  refine m_newi E G (N' := 288) (by decide) (by decide) (by decide) (by decide) (by decide) dX11_init_34 (fun q7 H G => ?_)
  obtain ⟨ac8, hac8⟩ : ∃ w : va_W, w = ac6 ++ [(q7, .inl (K 0, 288, .inl (fun _ => 0)))] := ⟨_, rfl⟩
  have G : mG D A s H locs ((h0, .inr (11, [.ref q1, .int 0, .int 0, .ref q3, .ref q5, .null, .null, .null, .int 0, .int 0, .int 0, .int 0, .int 0, .int 0, .int 0, .null, .int 0, .null, .int 0, .null, .null, .int 0, .int 0, .null, .null, .null, .int 0, .null, .null, .null, .null, .null, .long 0, .null, .null, .null, .null])) :: ac8) := by rw [hac8]; exact G
  refine m_putF E G hN 0 (ci := 11) rfl 5 (C := RX11) (T := TX11) (N := 37) rfl (by decide) mw_fl_11_20 rfl rfl rfl rfl (Nat.le_of_ble_eq_true rfl) dX11_init_36 (fun H locs G => ?_)
  have G : mG D A s H locs ((h0, .inr (11, [.ref q1, .int 0, .int 0, .ref q3, .ref q5, .ref q7, .null, .null, .int 0, .int 0, .int 0, .int 0, .int 0, .int 0, .int 0, .null, .int 0, .null, .int 0, .null, .null, .int 0, .int 0, .null, .null, .null, .int 0, .null, .null, .null, .null, .null, .long 0, .null, .null, .null, .null])) :: ac8) := G
  refine lv_aload_n E.1 E.2.1 dX11_init_39 rfl (lv_at hl 0 rfl) ?_
  refine lv_bipush (v := 6) E.1 E.2.1 dX11_init_40 (by decide) ?_
  refine m_newi E G (N' := 6) (by decide) (by decide) (by decide) (by decide) (by decide) dX11_init_42 (fun q9 H G => ?_)
  obtain ⟨ac10, hac10⟩ : ∃ w : va_W, w = ac8 ++ [(q9, .inl (K 0, 6, .inl (fun _ => 0)))] := ⟨_, rfl⟩
  have G : mG D A s H locs ((h0, .inr (11, [.ref q1, .int 0, .int 0, .ref q3, .ref q5, .ref q7, .null, .null, .int 0, .int 0, .int 0, .int 0, .int 0, .int 0, .int 0, .null, .int 0, .null, .int 0, .null, .null, .int 0, .int 0, .null, .null, .null, .int 0, .null, .null, .null, .null, .null, .long 0, .null, .null, .null, .null])) :: ac10) := by rw [hac10]; exact G
  refine m_putF E G hN 0 (ci := 11) rfl 6 (C := RX11) (T := TX11) (N := 37) rfl (by decide) mw_fl_11_23 rfl rfl rfl rfl (Nat.le_of_ble_eq_true rfl) dX11_init_44 (fun H locs G => ?_)
  have G : mG D A s H locs ((h0, .inr (11, [.ref q1, .int 0, .int 0, .ref q3, .ref q5, .ref q7, .ref q9, .null, .int 0, .int 0, .int 0, .int 0, .int 0, .int 0, .int 0, .null, .int 0, .null, .int 0, .null, .null, .int 0, .int 0, .null, .null, .null, .int 0, .null, .null, .null, .null, .null, .long 0, .null, .null, .null, .null])) :: ac10) := G
  refine lv_aload_n E.1 E.2.1 dX11_init_47 rfl (lv_at hl 0 rfl) ?_
  refine lv_bipush (v := 96) E.1 E.2.1 dX11_init_48 (by decide) ?_
  refine m_newi E G (N' := 96) (by decide) (by decide) (by decide) (by decide) (by decide) dX11_init_50 (fun q11 H G => ?_)
  obtain ⟨ac12, hac12⟩ : ∃ w : va_W, w = ac10 ++ [(q11, .inl (K 0, 96, .inl (fun _ => 0)))] := ⟨_, rfl⟩
  have G : mG D A s H locs ((h0, .inr (11, [.ref q1, .int 0, .int 0, .ref q3, .ref q5, .ref q7, .ref q9, .null, .int 0, .int 0, .int 0, .int 0, .int 0, .int 0, .int 0, .null, .int 0, .null, .int 0, .null, .null, .int 0, .int 0, .null, .null, .null, .int 0, .null, .null, .null, .null, .null, .long 0, .null, .null, .null, .null])) :: ac12) := by rw [hac12]; exact G
  refine m_putF E G hN 0 (ci := 11) rfl 7 (C := RX11) (T := TX11) (N := 37) rfl (by decide) mw_fl_11_26 rfl rfl rfl rfl (Nat.le_of_ble_eq_true rfl) dX11_init_52 (fun H locs G => ?_)
  have G : mG D A s H locs ((h0, .inr (11, [.ref q1, .int 0, .int 0, .ref q3, .ref q5, .ref q7, .ref q9, .ref q11, .int 0, .int 0, .int 0, .int 0, .int 0, .int 0, .int 0, .null, .int 0, .null, .int 0, .null, .null, .int 0, .int 0, .null, .null, .null, .int 0, .null, .null, .null, .null, .null, .long 0, .null, .null, .null, .null])) :: ac12) := G
  refine lv_aload_n E.1 E.2.1 dX11_init_55 rfl (lv_at hl 0 rfl) ?_
  refine lv_sipush (v := 400) E.1 E.2.1 dX11_init_56 (by decide) ?_
  refine m_newi E G (N' := 400) (by decide) (by decide) (by decide) (by decide) (by decide) dX11_init_59 (fun q13 H G => ?_)
  obtain ⟨ac14, hac14⟩ : ∃ w : va_W, w = ac12 ++ [(q13, .inl (K 0, 400, .inl (fun _ => 0)))] := ⟨_, rfl⟩
  have G : mG D A s H locs ((h0, .inr (11, [.ref q1, .int 0, .int 0, .ref q3, .ref q5, .ref q7, .ref q9, .ref q11, .int 0, .int 0, .int 0, .int 0, .int 0, .int 0, .int 0, .null, .int 0, .null, .int 0, .null, .null, .int 0, .int 0, .null, .null, .null, .int 0, .null, .null, .null, .null, .null, .long 0, .null, .null, .null, .null])) :: ac14) := by rw [hac14]; exact G
  refine m_putF E G hN 0 (ci := 11) rfl 15 (C := RX11) (T := TX11) (N := 37) rfl (by decide) mw_fl_11_29 rfl rfl rfl rfl (Nat.le_of_ble_eq_true rfl) dX11_init_61 (fun H locs G => ?_)
  have G : mG D A s H locs ((h0, .inr (11, [.ref q1, .int 0, .int 0, .ref q3, .ref q5, .ref q7, .ref q9, .ref q11, .int 0, .int 0, .int 0, .int 0, .int 0, .int 0, .int 0, .ref q13, .int 0, .null, .int 0, .null, .null, .int 0, .int 0, .null, .null, .null, .int 0, .null, .null, .null, .null, .null, .long 0, .null, .null, .null, .null])) :: ac14) := G
  refine lv_aload_n E.1 E.2.1 dX11_init_64 rfl (lv_at hl 0 rfl) ?_
  refine lv_bipush (v := 64) E.1 E.2.1 dX11_init_65 (by decide) ?_
  refine m_newl E G (N' := 64) (by decide) (by decide) (by decide) (by decide) (by decide) dX11_init_67 (fun q15 H G => ?_)
  obtain ⟨ac16, hac16⟩ : ∃ w : va_W, w = ac14 ++ [(q15, .inl (K 2, 64, .inr (.inl (fun _ => 0))))] := ⟨_, rfl⟩
  have G : mG D A s H locs ((h0, .inr (11, [.ref q1, .int 0, .int 0, .ref q3, .ref q5, .ref q7, .ref q9, .ref q11, .int 0, .int 0, .int 0, .int 0, .int 0, .int 0, .int 0, .ref q13, .int 0, .null, .int 0, .null, .null, .int 0, .int 0, .null, .null, .null, .int 0, .null, .null, .null, .null, .null, .long 0, .null, .null, .null, .null])) :: ac16) := by rw [hac16]; exact G
  refine m_putF E G hN 0 (ci := 11) rfl 17 (C := RX11) (T := TX11) (N := 37) rfl (by decide) mw_fl_11_32 rfl rfl rfl rfl (Nat.le_of_ble_eq_true rfl) dX11_init_69 (fun H locs G => ?_)
  have G : mG D A s H locs ((h0, .inr (11, [.ref q1, .int 0, .int 0, .ref q3, .ref q5, .ref q7, .ref q9, .ref q11, .int 0, .int 0, .int 0, .int 0, .int 0, .int 0, .int 0, .ref q13, .int 0, .ref q15, .int 0, .null, .null, .int 0, .int 0, .null, .null, .null, .int 0, .null, .null, .null, .null, .null, .long 0, .null, .null, .null, .null])) :: ac16) := G
  refine lv_aload_n E.1 E.2.1 dX11_init_72 rfl (lv_at hl 0 rfl) ?_
  refine lv_bipush (v := 11) E.1 E.2.1 dX11_init_73 (by decide) ?_
  refine m_newl E G (N' := 11) (by decide) (by decide) (by decide) (by decide) (by decide) dX11_init_75 (fun q17 H G => ?_)
  obtain ⟨ac18, hac18⟩ : ∃ w : va_W, w = ac16 ++ [(q17, .inl (K 2, 11, .inr (.inl (fun _ => 0))))] := ⟨_, rfl⟩
  have G : mG D A s H locs ((h0, .inr (11, [.ref q1, .int 0, .int 0, .ref q3, .ref q5, .ref q7, .ref q9, .ref q11, .int 0, .int 0, .int 0, .int 0, .int 0, .int 0, .int 0, .ref q13, .int 0, .ref q15, .int 0, .null, .null, .int 0, .int 0, .null, .null, .null, .int 0, .null, .null, .null, .null, .null, .long 0, .null, .null, .null, .null])) :: ac18) := by rw [hac18]; exact G
  refine m_putF E G hN 0 (ci := 11) rfl 19 (C := RX11) (T := TX11) (N := 37) rfl (by decide) mw_fl_11_36 rfl rfl rfl rfl (Nat.le_of_ble_eq_true rfl) dX11_init_77 (fun H locs G => ?_)
  have G : mG D A s H locs ((h0, .inr (11, [.ref q1, .int 0, .int 0, .ref q3, .ref q5, .ref q7, .ref q9, .ref q11, .int 0, .int 0, .int 0, .int 0, .int 0, .int 0, .int 0, .ref q13, .int 0, .ref q15, .int 0, .ref q17, .null, .int 0, .int 0, .null, .null, .null, .int 0, .null, .null, .null, .null, .null, .long 0, .null, .null, .null, .null])) :: ac18) := G
  refine lv_aload_n E.1 E.2.1 dX11_init_80 rfl (lv_at hl 0 rfl) ?_
  refine lv_bipush (v := 127) E.1 E.2.1 dX11_init_81 (by decide) ?_
  refine m_newi E G (N' := 127) (by decide) (by decide) (by decide) (by decide) (by decide) dX11_init_83 (fun q19 H G => ?_)
  obtain ⟨ac20, hac20⟩ : ∃ w : va_W, w = ac18 ++ [(q19, .inl (K 0, 127, .inl (fun _ => 0)))] := ⟨_, rfl⟩
  have G : mG D A s H locs ((h0, .inr (11, [.ref q1, .int 0, .int 0, .ref q3, .ref q5, .ref q7, .ref q9, .ref q11, .int 0, .int 0, .int 0, .int 0, .int 0, .int 0, .int 0, .ref q13, .int 0, .ref q15, .int 0, .ref q17, .null, .int 0, .int 0, .null, .null, .null, .int 0, .null, .null, .null, .null, .null, .long 0, .null, .null, .null, .null])) :: ac20) := by rw [hac20]; exact G
  refine m_putF E G hN 0 (ci := 11) rfl 20 (C := RX11) (T := TX11) (N := 37) rfl (by decide) mw_fl_11_39 rfl rfl rfl rfl (Nat.le_of_ble_eq_true rfl) dX11_init_85 (fun H locs G => ?_)
  have G : mG D A s H locs ((h0, .inr (11, [.ref q1, .int 0, .int 0, .ref q3, .ref q5, .ref q7, .ref q9, .ref q11, .int 0, .int 0, .int 0, .int 0, .int 0, .int 0, .int 0, .ref q13, .int 0, .ref q15, .int 0, .ref q17, .ref q19, .int 0, .int 0, .null, .null, .null, .int 0, .null, .null, .null, .null, .null, .long 0, .null, .null, .null, .null])) :: ac20) := G
  refine lv_aload_n E.1 E.2.1 dX11_init_88 rfl (lv_at hl 0 rfl) ?_
  refine lv_iconst (v := (-1)) E.1 E.2.1 dX11_init_89 (by decide) ?_
  refine m_put E G 0 (ci := 11) rfl 21 (C := RX11) (T := TX11) (N := 37) rfl (by decide) mw_fl_11_42 rfl rfl rfl (Nat.le_of_ble_eq_true rfl) dX11_init_90 (fun H locs G => ?_)
  have G : mG D A s H locs ((h0, .inr (11, [.ref q1, .int 0, .int 0, .ref q3, .ref q5, .ref q7, .ref q9, .ref q11, .int 0, .int 0, .int 0, .int 0, .int 0, .int 0, .int 0, .ref q13, .int 0, .ref q15, .int 0, .ref q17, .ref q19, .int (-1), .int 0, .null, .null, .null, .int 0, .null, .null, .null, .null, .null, .long 0, .null, .null, .null, .null])) :: ac20) := G
  refine lv_aload_n E.1 E.2.1 dX11_init_93 rfl (lv_at hl 0 rfl) ?_
  refine lv_iconst (v := 5) E.1 E.2.1 dX11_init_94 (by decide) ?_
  refine m_newi E G (N' := 5) (by decide) (by decide) (by decide) (by decide) (by decide) dX11_init_95 (fun q21 H G => ?_)
  obtain ⟨ac22, hac22⟩ : ∃ w : va_W, w = ac20 ++ [(q21, .inl (K 0, 5, .inl (fun _ => 0)))] := ⟨_, rfl⟩
  have G : mG D A s H locs ((h0, .inr (11, [.ref q1, .int 0, .int 0, .ref q3, .ref q5, .ref q7, .ref q9, .ref q11, .int 0, .int 0, .int 0, .int 0, .int 0, .int 0, .int 0, .ref q13, .int 0, .ref q15, .int 0, .ref q17, .ref q19, .int (-1), .int 0, .null, .null, .null, .int 0, .null, .null, .null, .null, .null, .long 0, .null, .null, .null, .null])) :: ac22) := by rw [hac22]; exact G
  refine m_putF E G hN 0 (ci := 11) rfl 23 (C := RX11) (T := TX11) (N := 37) rfl (by decide) mw_fl_11_46 rfl rfl rfl rfl (Nat.le_of_ble_eq_true rfl) dX11_init_97 (fun H locs G => ?_)
  have G : mG D A s H locs ((h0, .inr (11, [.ref q1, .int 0, .int 0, .ref q3, .ref q5, .ref q7, .ref q9, .ref q11, .int 0, .int 0, .int 0, .int 0, .int 0, .int 0, .int 0, .ref q13, .int 0, .ref q15, .int 0, .ref q17, .ref q19, .int (-1), .int 0, .ref q21, .null, .null, .int 0, .null, .null, .null, .null, .null, .long 0, .null, .null, .null, .null])) :: ac22) := G
  refine lv_aload_n E.1 E.2.1 dX11_init_100 rfl (lv_at hl 0 rfl) ?_
  refine lv_iconst (v := 5) E.1 E.2.1 dX11_init_101 (by decide) ?_
  refine m_newi E G (N' := 5) (by decide) (by decide) (by decide) (by decide) (by decide) dX11_init_102 (fun q23 H G => ?_)
  obtain ⟨ac24, hac24⟩ : ∃ w : va_W, w = ac22 ++ [(q23, .inl (K 0, 5, .inl (fun _ => 0)))] := ⟨_, rfl⟩
  have G : mG D A s H locs ((h0, .inr (11, [.ref q1, .int 0, .int 0, .ref q3, .ref q5, .ref q7, .ref q9, .ref q11, .int 0, .int 0, .int 0, .int 0, .int 0, .int 0, .int 0, .ref q13, .int 0, .ref q15, .int 0, .ref q17, .ref q19, .int (-1), .int 0, .ref q21, .null, .null, .int 0, .null, .null, .null, .null, .null, .long 0, .null, .null, .null, .null])) :: ac24) := by rw [hac24]; exact G
  refine m_putF E G hN 0 (ci := 11) rfl 24 (C := RX11) (T := TX11) (N := 37) rfl (by decide) mw_fl_11_49 rfl rfl rfl rfl (Nat.le_of_ble_eq_true rfl) dX11_init_104 (fun H locs G => ?_)
  have G : mG D A s H locs ((h0, .inr (11, [.ref q1, .int 0, .int 0, .ref q3, .ref q5, .ref q7, .ref q9, .ref q11, .int 0, .int 0, .int 0, .int 0, .int 0, .int 0, .int 0, .ref q13, .int 0, .ref q15, .int 0, .ref q17, .ref q19, .int (-1), .int 0, .ref q21, .ref q23, .null, .int 0, .null, .null, .null, .null, .null, .long 0, .null, .null, .null, .null])) :: ac24) := G
  refine lv_aload_n E.1 E.2.1 dX11_init_107 rfl (lv_at hl 0 rfl) ?_
  refine lv_sipush (v := 680) E.1 E.2.1 dX11_init_108 (by decide) ?_
  refine m_newi E G (N' := 680) (by decide) (by decide) (by decide) (by decide) (by decide) dX11_init_111 (fun q25 H G => ?_)
  obtain ⟨ac26, hac26⟩ : ∃ w : va_W, w = ac24 ++ [(q25, .inl (K 0, 680, .inl (fun _ => 0)))] := ⟨_, rfl⟩
  have G : mG D A s H locs ((h0, .inr (11, [.ref q1, .int 0, .int 0, .ref q3, .ref q5, .ref q7, .ref q9, .ref q11, .int 0, .int 0, .int 0, .int 0, .int 0, .int 0, .int 0, .ref q13, .int 0, .ref q15, .int 0, .ref q17, .ref q19, .int (-1), .int 0, .ref q21, .ref q23, .null, .int 0, .null, .null, .null, .null, .null, .long 0, .null, .null, .null, .null])) :: ac26) := by rw [hac26]; exact G
  refine m_putF E G hN 0 (ci := 11) rfl 25 (C := RX11) (T := TX11) (N := 37) rfl (by decide) mw_fl_11_52 rfl rfl rfl rfl (Nat.le_of_ble_eq_true rfl) dX11_init_113 (fun H locs G => ?_)
  have G : mG D A s H locs ((h0, .inr (11, [.ref q1, .int 0, .int 0, .ref q3, .ref q5, .ref q7, .ref q9, .ref q11, .int 0, .int 0, .int 0, .int 0, .int 0, .int 0, .int 0, .ref q13, .int 0, .ref q15, .int 0, .ref q17, .ref q19, .int (-1), .int 0, .ref q21, .ref q23, .ref q25, .int 0, .null, .null, .null, .null, .null, .long 0, .null, .null, .null, .null])) :: ac26) := G
  refine lv_aload_n E.1 E.2.1 dX11_init_116 rfl (lv_at hl 0 rfl) ?_
  refine lv_bipush (v := 34) E.1 E.2.1 dX11_init_117 (by decide) ?_
  refine m_newi E G (N' := 34) (by decide) (by decide) (by decide) (by decide) (by decide) dX11_init_119 (fun q27 H G => ?_)
  obtain ⟨ac28, hac28⟩ : ∃ w : va_W, w = ac26 ++ [(q27, .inl (K 0, 34, .inl (fun _ => 0)))] := ⟨_, rfl⟩
  have G : mG D A s H locs ((h0, .inr (11, [.ref q1, .int 0, .int 0, .ref q3, .ref q5, .ref q7, .ref q9, .ref q11, .int 0, .int 0, .int 0, .int 0, .int 0, .int 0, .int 0, .ref q13, .int 0, .ref q15, .int 0, .ref q17, .ref q19, .int (-1), .int 0, .ref q21, .ref q23, .ref q25, .int 0, .null, .null, .null, .null, .null, .long 0, .null, .null, .null, .null])) :: ac28) := by rw [hac28]; exact G
  refine m_putF E G hN 0 (ci := 11) rfl 27 (C := RX11) (T := TX11) (N := 37) rfl (by decide) mw_fl_11_55 rfl rfl rfl rfl (Nat.le_of_ble_eq_true rfl) dX11_init_121 (fun H locs G => ?_)
  have G : mG D A s H locs ((h0, .inr (11, [.ref q1, .int 0, .int 0, .ref q3, .ref q5, .ref q7, .ref q9, .ref q11, .int 0, .int 0, .int 0, .int 0, .int 0, .int 0, .int 0, .ref q13, .int 0, .ref q15, .int 0, .ref q17, .ref q19, .int (-1), .int 0, .ref q21, .ref q23, .ref q25, .int 0, .ref q27, .null, .null, .null, .null, .long 0, .null, .null, .null, .null])) :: ac28) := G
  refine lv_aload_n E.1 E.2.1 dX11_init_124 rfl (lv_at hl 0 rfl) ?_
  refine lv_sipush (v := 128) E.1 E.2.1 dX11_init_125 (by decide) ?_
  refine m_newi E G (N' := 128) (by decide) (by decide) (by decide) (by decide) (by decide) dX11_init_128 (fun q29 H G => ?_)
  obtain ⟨ac30, hac30⟩ : ∃ w : va_W, w = ac28 ++ [(q29, .inl (K 0, 128, .inl (fun _ => 0)))] := ⟨_, rfl⟩
  have G : mG D A s H locs ((h0, .inr (11, [.ref q1, .int 0, .int 0, .ref q3, .ref q5, .ref q7, .ref q9, .ref q11, .int 0, .int 0, .int 0, .int 0, .int 0, .int 0, .int 0, .ref q13, .int 0, .ref q15, .int 0, .ref q17, .ref q19, .int (-1), .int 0, .ref q21, .ref q23, .ref q25, .int 0, .ref q27, .null, .null, .null, .null, .long 0, .null, .null, .null, .null])) :: ac30) := by rw [hac30]; exact G
  refine m_putF E G hN 0 (ci := 11) rfl 28 (C := RX11) (T := TX11) (N := 37) rfl (by decide) mw_fl_11_58 rfl rfl rfl rfl (Nat.le_of_ble_eq_true rfl) dX11_init_130 (fun H locs G => ?_)
  have G : mG D A s H locs ((h0, .inr (11, [.ref q1, .int 0, .int 0, .ref q3, .ref q5, .ref q7, .ref q9, .ref q11, .int 0, .int 0, .int 0, .int 0, .int 0, .int 0, .int 0, .ref q13, .int 0, .ref q15, .int 0, .ref q17, .ref q19, .int (-1), .int 0, .ref q21, .ref q23, .ref q25, .int 0, .ref q27, .ref q29, .null, .null, .null, .long 0, .null, .null, .null, .null])) :: ac30) := G
  refine lv_aload_n E.1 E.2.1 dX11_init_133 rfl (lv_at hl 0 rfl) ?_
  refine lv_sipush (v := 366) E.1 E.2.1 dX11_init_134 (by decide) ?_
  refine m_newi E G (N' := 366) (by decide) (by decide) (by decide) (by decide) (by decide) dX11_init_137 (fun q31 H G => ?_)
  obtain ⟨ac32, hac32⟩ : ∃ w : va_W, w = ac30 ++ [(q31, .inl (K 0, 366, .inl (fun _ => 0)))] := ⟨_, rfl⟩
  have G : mG D A s H locs ((h0, .inr (11, [.ref q1, .int 0, .int 0, .ref q3, .ref q5, .ref q7, .ref q9, .ref q11, .int 0, .int 0, .int 0, .int 0, .int 0, .int 0, .int 0, .ref q13, .int 0, .ref q15, .int 0, .ref q17, .ref q19, .int (-1), .int 0, .ref q21, .ref q23, .ref q25, .int 0, .ref q27, .ref q29, .null, .null, .null, .long 0, .null, .null, .null, .null])) :: ac32) := by rw [hac32]; exact G
  refine m_putF E G hN 0 (ci := 11) rfl 29 (C := RX11) (T := TX11) (N := 37) rfl (by decide) mw_fl_11_61 rfl rfl rfl rfl (Nat.le_of_ble_eq_true rfl) dX11_init_139 (fun H locs G => ?_)
  have G : mG D A s H locs ((h0, .inr (11, [.ref q1, .int 0, .int 0, .ref q3, .ref q5, .ref q7, .ref q9, .ref q11, .int 0, .int 0, .int 0, .int 0, .int 0, .int 0, .int 0, .ref q13, .int 0, .ref q15, .int 0, .ref q17, .ref q19, .int (-1), .int 0, .ref q21, .ref q23, .ref q25, .int 0, .ref q27, .ref q29, .ref q31, .null, .null, .long 0, .null, .null, .null, .null])) :: ac32) := G
  refine lv_aload_n E.1 E.2.1 dX11_init_142 rfl (lv_at hl 0 rfl) ?_
  refine lv_bipush (v := 7) E.1 E.2.1 dX11_init_143 (by decide) ?_
  refine m_newz E G (N' := 7) (by decide) (by decide) (by decide) (by decide) (by decide) dX11_init_145 (fun q33 H G => ?_)
  obtain ⟨ac34, hac34⟩ : ∃ w : va_W, w = ac32 ++ [(q33, .inl (K 3, 7, .inl (fun _ => 0)))] := ⟨_, rfl⟩
  have G : mG D A s H locs ((h0, .inr (11, [.ref q1, .int 0, .int 0, .ref q3, .ref q5, .ref q7, .ref q9, .ref q11, .int 0, .int 0, .int 0, .int 0, .int 0, .int 0, .int 0, .ref q13, .int 0, .ref q15, .int 0, .ref q17, .ref q19, .int (-1), .int 0, .ref q21, .ref q23, .ref q25, .int 0, .ref q27, .ref q29, .ref q31, .null, .null, .long 0, .null, .null, .null, .null])) :: ac34) := by rw [hac34]; exact G
  refine m_putF E G hN 0 (ci := 11) rfl 30 (C := RX11) (T := TX11) (N := 37) rfl (by decide) mw_fl_11_64 rfl rfl rfl rfl (Nat.le_of_ble_eq_true rfl) dX11_init_147 (fun H locs G => ?_)
  have G : mG D A s H locs ((h0, .inr (11, [.ref q1, .int 0, .int 0, .ref q3, .ref q5, .ref q7, .ref q9, .ref q11, .int 0, .int 0, .int 0, .int 0, .int 0, .int 0, .int 0, .ref q13, .int 0, .ref q15, .int 0, .ref q17, .ref q19, .int (-1), .int 0, .ref q21, .ref q23, .ref q25, .int 0, .ref q27, .ref q29, .ref q31, .ref q33, .null, .long 0, .null, .null, .null, .null])) :: ac34) := G
  refine lv_aload_n E.1 E.2.1 dX11_init_150 rfl (lv_at hl 0 rfl) ?_
  refine lv_bipush (v := 35) E.1 E.2.1 dX11_init_151 (by decide) ?_
  refine m_newi E G (N' := 35) (by decide) (by decide) (by decide) (by decide) (by decide) dX11_init_153 (fun q35 H G => ?_)
  obtain ⟨ac36, hac36⟩ : ∃ w : va_W, w = ac34 ++ [(q35, .inl (K 0, 35, .inl (fun _ => 0)))] := ⟨_, rfl⟩
  have G : mG D A s H locs ((h0, .inr (11, [.ref q1, .int 0, .int 0, .ref q3, .ref q5, .ref q7, .ref q9, .ref q11, .int 0, .int 0, .int 0, .int 0, .int 0, .int 0, .int 0, .ref q13, .int 0, .ref q15, .int 0, .ref q17, .ref q19, .int (-1), .int 0, .ref q21, .ref q23, .ref q25, .int 0, .ref q27, .ref q29, .ref q31, .ref q33, .null, .long 0, .null, .null, .null, .null])) :: ac36) := by rw [hac36]; exact G
  refine m_putF E G hN 0 (ci := 11) rfl 31 (C := RX11) (T := TX11) (N := 37) rfl (by decide) mw_fl_11_68 rfl rfl rfl rfl (Nat.le_of_ble_eq_true rfl) dX11_init_155 (fun H locs G => ?_)
  have G : mG D A s H locs ((h0, .inr (11, [.ref q1, .int 0, .int 0, .ref q3, .ref q5, .ref q7, .ref q9, .ref q11, .int 0, .int 0, .int 0, .int 0, .int 0, .int 0, .int 0, .ref q13, .int 0, .ref q15, .int 0, .ref q17, .ref q19, .int (-1), .int 0, .ref q21, .ref q23, .ref q25, .int 0, .ref q27, .ref q29, .ref q31, .ref q33, .ref q35, .long 0, .null, .null, .null, .null])) :: ac36) := G
  refine lv_aload_n E.1 E.2.1 dX11_init_158 rfl (lv_at hl 0 rfl) ?_
  refine lv_sipush (v := 508) E.1 E.2.1 dX11_init_159 (by decide) ?_
  refine m_newi E G (N' := 508) (by decide) (by decide) (by decide) (by decide) (by decide) dX11_init_162 (fun q37 H G => ?_)
  obtain ⟨ac38, hac38⟩ : ∃ w : va_W, w = ac36 ++ [(q37, .inl (K 0, 508, .inl (fun _ => 0)))] := ⟨_, rfl⟩
  have G : mG D A s H locs ((h0, .inr (11, [.ref q1, .int 0, .int 0, .ref q3, .ref q5, .ref q7, .ref q9, .ref q11, .int 0, .int 0, .int 0, .int 0, .int 0, .int 0, .int 0, .ref q13, .int 0, .ref q15, .int 0, .ref q17, .ref q19, .int (-1), .int 0, .ref q21, .ref q23, .ref q25, .int 0, .ref q27, .ref q29, .ref q31, .ref q33, .ref q35, .long 0, .null, .null, .null, .null])) :: ac38) := by rw [hac38]; exact G
  refine m_putF E G hN 0 (ci := 11) rfl 33 (C := RX11) (T := TX11) (N := 37) rfl (by decide) mw_fl_11_71 rfl rfl rfl rfl (Nat.le_of_ble_eq_true rfl) dX11_init_164 (fun H locs G => ?_)
  have G : mG D A s H locs ((h0, .inr (11, [.ref q1, .int 0, .int 0, .ref q3, .ref q5, .ref q7, .ref q9, .ref q11, .int 0, .int 0, .int 0, .int 0, .int 0, .int 0, .int 0, .ref q13, .int 0, .ref q15, .int 0, .ref q17, .ref q19, .int (-1), .int 0, .ref q21, .ref q23, .ref q25, .int 0, .ref q27, .ref q29, .ref q31, .ref q33, .ref q35, .long 0, .ref q37, .null, .null, .null])) :: ac38) := G
  refine lv_aload_n E.1 E.2.1 dX11_init_167 rfl (lv_at hl 0 rfl) ?_
  refine lv_iconst (v := 4) E.1 E.2.1 dX11_init_168 (by decide) ?_
  refine m_newi E G (N' := 4) (by decide) (by decide) (by decide) (by decide) (by decide) dX11_init_169 (fun q39 H G => ?_)
  obtain ⟨ac40, hac40⟩ : ∃ w : va_W, w = ac38 ++ [(q39, .inl (K 0, 4, .inl (fun _ => 0)))] := ⟨_, rfl⟩
  have G : mG D A s H locs ((h0, .inr (11, [.ref q1, .int 0, .int 0, .ref q3, .ref q5, .ref q7, .ref q9, .ref q11, .int 0, .int 0, .int 0, .int 0, .int 0, .int 0, .int 0, .ref q13, .int 0, .ref q15, .int 0, .ref q17, .ref q19, .int (-1), .int 0, .ref q21, .ref q23, .ref q25, .int 0, .ref q27, .ref q29, .ref q31, .ref q33, .ref q35, .long 0, .ref q37, .null, .null, .null])) :: ac40) := by rw [hac40]; exact G
  refine m_putF E G hN 0 (ci := 11) rfl 34 (C := RX11) (T := TX11) (N := 37) rfl (by decide) mw_fl_11_74 rfl rfl rfl rfl (Nat.le_of_ble_eq_true rfl) dX11_init_171 (fun H locs G => ?_)
  have G : mG D A s H locs ((h0, .inr (11, [.ref q1, .int 0, .int 0, .ref q3, .ref q5, .ref q7, .ref q9, .ref q11, .int 0, .int 0, .int 0, .int 0, .int 0, .int 0, .int 0, .ref q13, .int 0, .ref q15, .int 0, .ref q17, .ref q19, .int (-1), .int 0, .ref q21, .ref q23, .ref q25, .int 0, .ref q27, .ref q29, .ref q31, .ref q33, .ref q35, .long 0, .ref q37, .ref q39, .null, .null])) :: ac40) := G
  refine lv_aload_n E.1 E.2.1 dX11_init_174 rfl (lv_at hl 0 rfl) ?_
  refine lv_iconst (v := 4) E.1 E.2.1 dX11_init_175 (by decide) ?_
  refine m_newi E G (N' := 4) (by decide) (by decide) (by decide) (by decide) (by decide) dX11_init_176 (fun q41 H G => ?_)
  obtain ⟨ac42, hac42⟩ : ∃ w : va_W, w = ac40 ++ [(q41, .inl (K 0, 4, .inl (fun _ => 0)))] := ⟨_, rfl⟩
  have G : mG D A s H locs ((h0, .inr (11, [.ref q1, .int 0, .int 0, .ref q3, .ref q5, .ref q7, .ref q9, .ref q11, .int 0, .int 0, .int 0, .int 0, .int 0, .int 0, .int 0, .ref q13, .int 0, .ref q15, .int 0, .ref q17, .ref q19, .int (-1), .int 0, .ref q21, .ref q23, .ref q25, .int 0, .ref q27, .ref q29, .ref q31, .ref q33, .ref q35, .long 0, .ref q37, .ref q39, .null, .null])) :: ac42) := by rw [hac42]; exact G
  refine m_putF E G hN 0 (ci := 11) rfl 35 (C := RX11) (T := TX11) (N := 37) rfl (by decide) mw_fl_11_77 rfl rfl rfl rfl (Nat.le_of_ble_eq_true rfl) dX11_init_178 (fun H locs G => ?_)
  have G : mG D A s H locs ((h0, .inr (11, [.ref q1, .int 0, .int 0, .ref q3, .ref q5, .ref q7, .ref q9, .ref q11, .int 0, .int 0, .int 0, .int 0, .int 0, .int 0, .int 0, .ref q13, .int 0, .ref q15, .int 0, .ref q17, .ref q19, .int (-1), .int 0, .ref q21, .ref q23, .ref q25, .int 0, .ref q27, .ref q29, .ref q31, .ref q33, .ref q35, .long 0, .ref q37, .ref q39, .ref q41, .null])) :: ac42) := G
  refine lv_aload_n E.1 E.2.1 dX11_init_181 rfl (lv_at hl 0 rfl) ?_
  refine lv_iconst (v := 4) E.1 E.2.1 dX11_init_182 (by decide) ?_
  refine m_newz E G (N' := 4) (by decide) (by decide) (by decide) (by decide) (by decide) dX11_init_183 (fun q43 H G => ?_)
  obtain ⟨ac44, hac44⟩ : ∃ w : va_W, w = ac42 ++ [(q43, .inl (K 3, 4, .inl (fun _ => 0)))] := ⟨_, rfl⟩
  have G : mG D A s H locs ((h0, .inr (11, [.ref q1, .int 0, .int 0, .ref q3, .ref q5, .ref q7, .ref q9, .ref q11, .int 0, .int 0, .int 0, .int 0, .int 0, .int 0, .int 0, .ref q13, .int 0, .ref q15, .int 0, .ref q17, .ref q19, .int (-1), .int 0, .ref q21, .ref q23, .ref q25, .int 0, .ref q27, .ref q29, .ref q31, .ref q33, .ref q35, .long 0, .ref q37, .ref q39, .ref q41, .null])) :: ac44) := by rw [hac44]; exact G
  refine m_putF E G hN 0 (ci := 11) rfl 36 (C := RX11) (T := TX11) (N := 37) rfl (by decide) mw_fl_11_80 rfl rfl rfl rfl (Nat.le_of_ble_eq_true rfl) dX11_init_185 (fun H locs G => ?_)
  have G : mG D A s H locs ((h0, .inr (11, [.ref q1, .int 0, .int 0, .ref q3, .ref q5, .ref q7, .ref q9, .ref q11, .int 0, .int 0, .int 0, .int 0, .int 0, .int 0, .int 0, .ref q13, .int 0, .ref q15, .int 0, .ref q17, .ref q19, .int (-1), .int 0, .ref q21, .ref q23, .ref q25, .int 0, .ref q27, .ref q29, .ref q31, .ref q33, .ref q35, .long 0, .ref q37, .ref q39, .ref q41, .ref q43])) :: ac44) := G
  obtain ⟨X0, hX0⟩ : ∃ x : va_W, x = ([(h0, .inr (11, [.ref q1, .int 0, .int 0, .ref q3, .ref q5, .ref q7, .ref q9, .ref q11, .int 0, .int 0, .int 0, .int 0, .int 0, .int 0, .int 0, .ref q13, .int 0, .ref q15, .int 0, .ref q17, .ref q19, .int (-1), .int 0, .ref q21, .ref q23, .ref q25, .int 0, .ref q27, .ref q29, .ref q31, .ref q33, .ref q35, .long 0, .ref q37, .ref q39, .ref q41, .ref q43]))] : va_W) := ⟨_, rfl⟩
  obtain ⟨g, hq45, hq46, hq47, hq48, hq49, hq50, hq51, hq52, hq53, hq54, hq55, hq56, hq57, hq58, hq59, hq60, hq61, hq62, hq63, hq64, hq65, hq66, hq67⟩ : ∃ g : Nat → Nat, g 386 = h0 ∧ g 387 = q1 ∧ g 388 = q3 ∧ g 389 = q5 ∧ g 390 = q7 ∧ g 391 = q9 ∧ g 392 = q11 ∧ g 393 = q13 ∧ g 394 = q15 ∧ g 395 = q17 ∧ g 396 = q19 ∧ g 397 = q21 ∧ g 398 = q23 ∧ g 399 = q25 ∧ g 400 = q27 ∧ g 401 = q29 ∧ g 402 = q31 ∧ g 403 = q33 ∧ g 404 = q35 ∧ g 405 = q37 ∧ g 406 = q39 ∧ g 407 = q41 ∧ g 408 = q43 := by
    refine ⟨fun j => if j < 387 then h0 else if j < 388 then q1 else if j < 389 then q3 else if j < 390 then q5 else if j < 391 then q7 else if j < 392 then q9 else if j < 393 then q11 else if j < 394 then q13 else if j < 395 then q15 else if j < 396 then q17 else if j < 397 then q19 else if j < 398 then q21 else if j < 399 then q23 else if j < 400 then q25 else if j < 401 then q27 else if j < 402 then q29 else if j < 403 then q31 else if j < 404 then q33 else if j < 405 then q35 else if j < 406 then q37 else if j < 407 then q39 else if j < 408 then q41 else q43, ?_, ?_, ?_, ?_, ?_, ?_, ?_, ?_, ?_, ?_, ?_, ?_, ?_, ?_, ?_, ?_, ?_, ?_, ?_, ?_, ?_, ?_, ?_⟩
    · exact (if_pos (by omega))
    · exact ((if_neg (by omega)).trans (if_pos (by omega)))
    · exact ((if_neg (by omega)).trans ((if_neg (by omega)).trans (if_pos (by omega))))
    · exact ((if_neg (by omega)).trans ((if_neg (by omega)).trans ((if_neg (by omega)).trans (if_pos (by omega)))))
    · exact ((if_neg (by omega)).trans ((if_neg (by omega)).trans ((if_neg (by omega)).trans ((if_neg (by omega)).trans (if_pos (by omega))))))
    · exact ((if_neg (by omega)).trans ((if_neg (by omega)).trans ((if_neg (by omega)).trans ((if_neg (by omega)).trans ((if_neg (by omega)).trans (if_pos (by omega)))))))
    · exact ((if_neg (by omega)).trans ((if_neg (by omega)).trans ((if_neg (by omega)).trans ((if_neg (by omega)).trans ((if_neg (by omega)).trans ((if_neg (by omega)).trans (if_pos (by omega))))))))
    · exact ((if_neg (by omega)).trans ((if_neg (by omega)).trans ((if_neg (by omega)).trans ((if_neg (by omega)).trans ((if_neg (by omega)).trans ((if_neg (by omega)).trans ((if_neg (by omega)).trans (if_pos (by omega)))))))))
    · exact ((if_neg (by omega)).trans ((if_neg (by omega)).trans ((if_neg (by omega)).trans ((if_neg (by omega)).trans ((if_neg (by omega)).trans ((if_neg (by omega)).trans ((if_neg (by omega)).trans ((if_neg (by omega)).trans (if_pos (by omega))))))))))
    · exact ((if_neg (by omega)).trans ((if_neg (by omega)).trans ((if_neg (by omega)).trans ((if_neg (by omega)).trans ((if_neg (by omega)).trans ((if_neg (by omega)).trans ((if_neg (by omega)).trans ((if_neg (by omega)).trans ((if_neg (by omega)).trans (if_pos (by omega)))))))))))
    · exact ((if_neg (by omega)).trans ((if_neg (by omega)).trans ((if_neg (by omega)).trans ((if_neg (by omega)).trans ((if_neg (by omega)).trans ((if_neg (by omega)).trans ((if_neg (by omega)).trans ((if_neg (by omega)).trans ((if_neg (by omega)).trans ((if_neg (by omega)).trans (if_pos (by omega))))))))))))
    · exact ((if_neg (by omega)).trans ((if_neg (by omega)).trans ((if_neg (by omega)).trans ((if_neg (by omega)).trans ((if_neg (by omega)).trans ((if_neg (by omega)).trans ((if_neg (by omega)).trans ((if_neg (by omega)).trans ((if_neg (by omega)).trans ((if_neg (by omega)).trans ((if_neg (by omega)).trans (if_pos (by omega)))))))))))))
    · exact ((if_neg (by omega)).trans ((if_neg (by omega)).trans ((if_neg (by omega)).trans ((if_neg (by omega)).trans ((if_neg (by omega)).trans ((if_neg (by omega)).trans ((if_neg (by omega)).trans ((if_neg (by omega)).trans ((if_neg (by omega)).trans ((if_neg (by omega)).trans ((if_neg (by omega)).trans ((if_neg (by omega)).trans (if_pos (by omega))))))))))))))
    · exact ((if_neg (by omega)).trans ((if_neg (by omega)).trans ((if_neg (by omega)).trans ((if_neg (by omega)).trans ((if_neg (by omega)).trans ((if_neg (by omega)).trans ((if_neg (by omega)).trans ((if_neg (by omega)).trans ((if_neg (by omega)).trans ((if_neg (by omega)).trans ((if_neg (by omega)).trans ((if_neg (by omega)).trans ((if_neg (by omega)).trans (if_pos (by omega)))))))))))))))
    · exact ((if_neg (by omega)).trans ((if_neg (by omega)).trans ((if_neg (by omega)).trans ((if_neg (by omega)).trans ((if_neg (by omega)).trans ((if_neg (by omega)).trans ((if_neg (by omega)).trans ((if_neg (by omega)).trans ((if_neg (by omega)).trans ((if_neg (by omega)).trans ((if_neg (by omega)).trans ((if_neg (by omega)).trans ((if_neg (by omega)).trans ((if_neg (by omega)).trans (if_pos (by omega))))))))))))))))
    · exact ((if_neg (by omega)).trans ((if_neg (by omega)).trans ((if_neg (by omega)).trans ((if_neg (by omega)).trans ((if_neg (by omega)).trans ((if_neg (by omega)).trans ((if_neg (by omega)).trans ((if_neg (by omega)).trans ((if_neg (by omega)).trans ((if_neg (by omega)).trans ((if_neg (by omega)).trans ((if_neg (by omega)).trans ((if_neg (by omega)).trans ((if_neg (by omega)).trans ((if_neg (by omega)).trans (if_pos (by omega)))))))))))))))))
    · exact ((if_neg (by omega)).trans ((if_neg (by omega)).trans ((if_neg (by omega)).trans ((if_neg (by omega)).trans ((if_neg (by omega)).trans ((if_neg (by omega)).trans ((if_neg (by omega)).trans ((if_neg (by omega)).trans ((if_neg (by omega)).trans ((if_neg (by omega)).trans ((if_neg (by omega)).trans ((if_neg (by omega)).trans ((if_neg (by omega)).trans ((if_neg (by omega)).trans ((if_neg (by omega)).trans ((if_neg (by omega)).trans (if_pos (by omega))))))))))))))))))
    · exact ((if_neg (by omega)).trans ((if_neg (by omega)).trans ((if_neg (by omega)).trans ((if_neg (by omega)).trans ((if_neg (by omega)).trans ((if_neg (by omega)).trans ((if_neg (by omega)).trans ((if_neg (by omega)).trans ((if_neg (by omega)).trans ((if_neg (by omega)).trans ((if_neg (by omega)).trans ((if_neg (by omega)).trans ((if_neg (by omega)).trans ((if_neg (by omega)).trans ((if_neg (by omega)).trans ((if_neg (by omega)).trans ((if_neg (by omega)).trans (if_pos (by omega)))))))))))))))))))
    · exact ((if_neg (by omega)).trans ((if_neg (by omega)).trans ((if_neg (by omega)).trans ((if_neg (by omega)).trans ((if_neg (by omega)).trans ((if_neg (by omega)).trans ((if_neg (by omega)).trans ((if_neg (by omega)).trans ((if_neg (by omega)).trans ((if_neg (by omega)).trans ((if_neg (by omega)).trans ((if_neg (by omega)).trans ((if_neg (by omega)).trans ((if_neg (by omega)).trans ((if_neg (by omega)).trans ((if_neg (by omega)).trans ((if_neg (by omega)).trans ((if_neg (by omega)).trans (if_pos (by omega))))))))))))))))))))
    · exact ((if_neg (by omega)).trans ((if_neg (by omega)).trans ((if_neg (by omega)).trans ((if_neg (by omega)).trans ((if_neg (by omega)).trans ((if_neg (by omega)).trans ((if_neg (by omega)).trans ((if_neg (by omega)).trans ((if_neg (by omega)).trans ((if_neg (by omega)).trans ((if_neg (by omega)).trans ((if_neg (by omega)).trans ((if_neg (by omega)).trans ((if_neg (by omega)).trans ((if_neg (by omega)).trans ((if_neg (by omega)).trans ((if_neg (by omega)).trans ((if_neg (by omega)).trans ((if_neg (by omega)).trans (if_pos (by omega)))))))))))))))))))))
    · exact ((if_neg (by omega)).trans ((if_neg (by omega)).trans ((if_neg (by omega)).trans ((if_neg (by omega)).trans ((if_neg (by omega)).trans ((if_neg (by omega)).trans ((if_neg (by omega)).trans ((if_neg (by omega)).trans ((if_neg (by omega)).trans ((if_neg (by omega)).trans ((if_neg (by omega)).trans ((if_neg (by omega)).trans ((if_neg (by omega)).trans ((if_neg (by omega)).trans ((if_neg (by omega)).trans ((if_neg (by omega)).trans ((if_neg (by omega)).trans ((if_neg (by omega)).trans ((if_neg (by omega)).trans ((if_neg (by omega)).trans (if_pos (by omega))))))))))))))))))))))
    · exact ((if_neg (by omega)).trans ((if_neg (by omega)).trans ((if_neg (by omega)).trans ((if_neg (by omega)).trans ((if_neg (by omega)).trans ((if_neg (by omega)).trans ((if_neg (by omega)).trans ((if_neg (by omega)).trans ((if_neg (by omega)).trans ((if_neg (by omega)).trans ((if_neg (by omega)).trans ((if_neg (by omega)).trans ((if_neg (by omega)).trans ((if_neg (by omega)).trans ((if_neg (by omega)).trans ((if_neg (by omega)).trans ((if_neg (by omega)).trans ((if_neg (by omega)).trans ((if_neg (by omega)).trans ((if_neg (by omega)).trans ((if_neg (by omega)).trans (if_pos (by omega)))))))))))))))))))))))
    · exact ((if_neg (by omega)).trans ((if_neg (by omega)).trans ((if_neg (by omega)).trans ((if_neg (by omega)).trans ((if_neg (by omega)).trans ((if_neg (by omega)).trans ((if_neg (by omega)).trans ((if_neg (by omega)).trans ((if_neg (by omega)).trans ((if_neg (by omega)).trans ((if_neg (by omega)).trans ((if_neg (by omega)).trans ((if_neg (by omega)).trans ((if_neg (by omega)).trans ((if_neg (by omega)).trans ((if_neg (by omega)).trans ((if_neg (by omega)).trans ((if_neg (by omega)).trans ((if_neg (by omega)).trans ((if_neg (by omega)).trans ((if_neg (by omega)).trans (if_neg (by omega)))))))))))))))))))))))
  have hW : ((h0, .inr (11, [.ref q1, .int 0, .int 0, .ref q3, .ref q5, .ref q7, .ref q9, .ref q11, .int 0, .int 0, .int 0, .int 0, .int 0, .int 0, .int 0, .ref q13, .int 0, .ref q15, .int 0, .ref q17, .ref q19, .int (-1), .int 0, .ref q21, .ref q23, .ref q25, .int 0, .ref q27, .ref q29, .ref q31, .ref q33, .ref q35, .long 0, .ref q37, .ref q39, .ref q41, .ref q43])) :: ac44) = X0 ++ (([(q1, .inl (K 1, 400, .inl (fun _ => 0)))] : va_W) ++ (([(q3, .inl (K 0, 2400, .inl (fun _ => 0)))] : va_W) ++ (([(q5, .inl (K 0, 7, .inl (fun _ => 0)))] : va_W) ++ (([(q7, .inl (K 0, 288, .inl (fun _ => 0)))] : va_W) ++ (([(q9, .inl (K 0, 6, .inl (fun _ => 0)))] : va_W) ++ (([(q11, .inl (K 0, 96, .inl (fun _ => 0)))] : va_W) ++ (([(q13, .inl (K 0, 400, .inl (fun _ => 0)))] : va_W) ++ (([(q15, .inl (K 2, 64, .inr (.inl (fun _ => 0))))] : va_W) ++ (([(q17, .inl (K 2, 11, .inr (.inl (fun _ => 0))))] : va_W) ++ (([(q19, .inl (K 0, 127, .inl (fun _ => 0)))] : va_W) ++ (([(q21, .inl (K 0, 5, .inl (fun _ => 0)))] : va_W) ++ (([(q23, .inl (K 0, 5, .inl (fun _ => 0)))] : va_W) ++ (([(q25, .inl (K 0, 680, .inl (fun _ => 0)))] : va_W) ++ (([(q27, .inl (K 0, 34, .inl (fun _ => 0)))] : va_W) ++ (([(q29, .inl (K 0, 128, .inl (fun _ => 0)))] : va_W) ++ (([(q31, .inl (K 0, 366, .inl (fun _ => 0)))] : va_W) ++ (([(q33, .inl (K 3, 7, .inl (fun _ => 0)))] : va_W) ++ (([(q35, .inl (K 0, 35, .inl (fun _ => 0)))] : va_W) ++ (([(q37, .inl (K 0, 508, .inl (fun _ => 0)))] : va_W) ++ (([(q39, .inl (K 0, 4, .inl (fun _ => 0)))] : va_W) ++ (([(q41, .inl (K 0, 4, .inl (fun _ => 0)))] : va_W) ++ (([(q43, .inl (K 3, 4, .inl (fun _ => 0)))] : va_W) ++ ([]))))))))))))))))))))))) := by
    rw [hX0, hac44, hac42, hac40, hac38, hac36, hac34, hac32, hac30, hac28, hac26, hac24, hac22, hac20, hac18, hac16, hac14, hac12, hac10, hac8, hac6, hac4, hac2, hac0]
    simp only [List.nil_append, List.append_nil, List.append_assoc, List.cons_append]
  have hP : List.Perm (X0 ++ (([(q1, .inl (K 1, 400, .inl (fun _ => 0)))] : va_W) ++ (([(q3, .inl (K 0, 2400, .inl (fun _ => 0)))] : va_W) ++ (([(q5, .inl (K 0, 7, .inl (fun _ => 0)))] : va_W) ++ (([(q7, .inl (K 0, 288, .inl (fun _ => 0)))] : va_W) ++ (([(q9, .inl (K 0, 6, .inl (fun _ => 0)))] : va_W) ++ (([(q11, .inl (K 0, 96, .inl (fun _ => 0)))] : va_W) ++ (([(q13, .inl (K 0, 400, .inl (fun _ => 0)))] : va_W) ++ (([(q15, .inl (K 2, 64, .inr (.inl (fun _ => 0))))] : va_W) ++ (([(q17, .inl (K 2, 11, .inr (.inl (fun _ => 0))))] : va_W) ++ (([(q19, .inl (K 0, 127, .inl (fun _ => 0)))] : va_W) ++ (([(q21, .inl (K 0, 5, .inl (fun _ => 0)))] : va_W) ++ (([(q23, .inl (K 0, 5, .inl (fun _ => 0)))] : va_W) ++ (([(q25, .inl (K 0, 680, .inl (fun _ => 0)))] : va_W) ++ (([(q27, .inl (K 0, 34, .inl (fun _ => 0)))] : va_W) ++ (([(q29, .inl (K 0, 128, .inl (fun _ => 0)))] : va_W) ++ (([(q31, .inl (K 0, 366, .inl (fun _ => 0)))] : va_W) ++ (([(q33, .inl (K 3, 7, .inl (fun _ => 0)))] : va_W) ++ (([(q35, .inl (K 0, 35, .inl (fun _ => 0)))] : va_W) ++ (([(q37, .inl (K 0, 508, .inl (fun _ => 0)))] : va_W) ++ (([(q39, .inl (K 0, 4, .inl (fun _ => 0)))] : va_W) ++ (([(q41, .inl (K 0, 4, .inl (fun _ => 0)))] : va_W) ++ (([(q43, .inl (K 3, 4, .inl (fun _ => 0)))] : va_W) ++ ([]))))))))))))))))))))))) : va_W) (X0 ++ (([(q1, .inl (K 1, 400, .inl (fun _ => 0)))] : va_W) ++ (([(q3, .inl (K 0, 2400, .inl (fun _ => 0)))] : va_W) ++ (([(q5, .inl (K 0, 7, .inl (fun _ => 0)))] : va_W) ++ (([(q7, .inl (K 0, 288, .inl (fun _ => 0)))] : va_W) ++ (([(q9, .inl (K 0, 6, .inl (fun _ => 0)))] : va_W) ++ (([(q11, .inl (K 0, 96, .inl (fun _ => 0)))] : va_W) ++ (([(q13, .inl (K 0, 400, .inl (fun _ => 0)))] : va_W) ++ (([(q15, .inl (K 2, 64, .inr (.inl (fun _ => 0))))] : va_W) ++ (([(q17, .inl (K 2, 11, .inr (.inl (fun _ => 0))))] : va_W) ++ (([(q19, .inl (K 0, 127, .inl (fun _ => 0)))] : va_W) ++ (([(q21, .inl (K 0, 5, .inl (fun _ => 0)))] : va_W) ++ (([(q23, .inl (K 0, 5, .inl (fun _ => 0)))] : va_W) ++ (([(q25, .inl (K 0, 680, .inl (fun _ => 0)))] : va_W) ++ (([(q27, .inl (K 0, 34, .inl (fun _ => 0)))] : va_W) ++ (([(q29, .inl (K 0, 128, .inl (fun _ => 0)))] : va_W) ++ (([(q31, .inl (K 0, 366, .inl (fun _ => 0)))] : va_W) ++ (([(q33, .inl (K 3, 7, .inl (fun _ => 0)))] : va_W) ++ (([(q35, .inl (K 0, 35, .inl (fun _ => 0)))] : va_W) ++ (([(q37, .inl (K 0, 508, .inl (fun _ => 0)))] : va_W) ++ (([(q39, .inl (K 0, 4, .inl (fun _ => 0)))] : va_W) ++ (([(q41, .inl (K 0, 4, .inl (fun _ => 0)))] : va_W) ++ (([(q43, .inl (K 3, 4, .inl (fun _ => 0)))] : va_W) ++ ([]))))))))))))))))))))))) : va_W) := pm_of (f := fun i => ([X0, ([(q1, .inl (K 1, 400, .inl (fun _ => 0)))] : va_W), ([(q3, .inl (K 0, 2400, .inl (fun _ => 0)))] : va_W), ([(q5, .inl (K 0, 7, .inl (fun _ => 0)))] : va_W), ([(q7, .inl (K 0, 288, .inl (fun _ => 0)))] : va_W), ([(q9, .inl (K 0, 6, .inl (fun _ => 0)))] : va_W), ([(q11, .inl (K 0, 96, .inl (fun _ => 0)))] : va_W), ([(q13, .inl (K 0, 400, .inl (fun _ => 0)))] : va_W), ([(q15, .inl (K 2, 64, .inr (.inl (fun _ => 0))))] : va_W), ([(q17, .inl (K 2, 11, .inr (.inl (fun _ => 0))))] : va_W), ([(q19, .inl (K 0, 127, .inl (fun _ => 0)))] : va_W), ([(q21, .inl (K 0, 5, .inl (fun _ => 0)))] : va_W), ([(q23, .inl (K 0, 5, .inl (fun _ => 0)))] : va_W), ([(q25, .inl (K 0, 680, .inl (fun _ => 0)))] : va_W), ([(q27, .inl (K 0, 34, .inl (fun _ => 0)))] : va_W), ([(q29, .inl (K 0, 128, .inl (fun _ => 0)))] : va_W), ([(q31, .inl (K 0, 366, .inl (fun _ => 0)))] : va_W), ([(q33, .inl (K 3, 7, .inl (fun _ => 0)))] : va_W), ([(q35, .inl (K 0, 35, .inl (fun _ => 0)))] : va_W), ([(q37, .inl (K 0, 508, .inl (fun _ => 0)))] : va_W), ([(q39, .inl (K 0, 4, .inl (fun _ => 0)))] : va_W), ([(q41, .inl (K 0, 4, .inl (fun _ => 0)))] : va_W), ([(q43, .inl (K 3, 4, .inl (fun _ => 0)))] : va_W)] : List va_W).getD i []) (m := 23) (π := [0, 1, 2, 3, 4, 5, 6, 7, 8, 9, 10, 11, 12, 13, 14, 15, 16, 17, 18, 19, 20, 21, 22]) (by decide)
  have tt68 : Bk K 386 1 g = X0 := by
    rw [hX0, Bk_one, cf_o (j := 386) (ci := 11) (rfl : ro 386 = 11) (by decide)]
    show ([(g 386, .inr (11, [.ref (g 387), .int 0, .int 0, .ref (g 388), .ref (g 389), .ref (g 390), .ref (g 391), .ref (g 392), .int 0, .int 0, .int 0, .int 0, .int 0, .int 0, .int 0, .ref (g 393), .int 0, .ref (g 394), .int 0, .ref (g 395), .ref (g 396), .int (-1), .int 0, .ref (g 397), .ref (g 398), .ref (g 399), .int 0, .ref (g 400), .ref (g 401), .ref (g 402), .ref (g 403), .ref (g 404), .long 0, .ref (g 405), .ref (g 406), .ref (g 407), .ref (g 408)]))] : va_W) = _
    rw [hq45, hq46, hq47, hq48, hq49, hq50, hq51, hq52, hq53, hq54, hq55, hq56, hq57, hq58, hq59, hq60, hq61, hq62, hq63, hq64, hq65, hq66, hq67]
  have tt69 : Bk K 387 1 g = ([(q1, .inl (K 1, 400, .inl (fun _ => 0)))] : va_W) := by rw [Bk_one, hq46, cf_r (j := 387) (r := 45) (rfl : ro 387 = 45) (by decide), show akN 45 = 400 by decide +kernel, show akK 45 = 1 by decide +kernel]; rfl
  have tt70 : Bk K 388 1 g = ([(q3, .inl (K 0, 2400, .inl (fun _ => 0)))] : va_W) := by rw [Bk_one, hq47, cf_r (j := 388) (r := 46) (rfl : ro 388 = 46) (by decide), show akN 46 = 2400 by decide +kernel, show akK 46 = 0 by decide +kernel]; rfl
  have tt71 : Bk K 389 1 g = ([(q5, .inl (K 0, 7, .inl (fun _ => 0)))] : va_W) := by rw [Bk_one, hq48, cf_r (j := 389) (r := 47) (rfl : ro 389 = 47) (by decide), show akN 47 = 7 by decide +kernel, show akK 47 = 0 by decide +kernel]; rfl
  have tt72 : Bk K 390 1 g = ([(q7, .inl (K 0, 288, .inl (fun _ => 0)))] : va_W) := by rw [Bk_one, hq49, cf_r (j := 390) (r := 48) (rfl : ro 390 = 48) (by decide), show akN 48 = 288 by decide +kernel, show akK 48 = 0 by decide +kernel]; rfl
  have tt73 : Bk K 391 1 g = ([(q9, .inl (K 0, 6, .inl (fun _ => 0)))] : va_W) := by rw [Bk_one, hq50, cf_r (j := 391) (r := 49) (rfl : ro 391 = 49) (by decide), show akN 49 = 6 by decide +kernel, show akK 49 = 0 by decide +kernel]; rfl
  have tt74 : Bk K 392 1 g = ([(q11, .inl (K 0, 96, .inl (fun _ => 0)))] : va_W) := by rw [Bk_one, hq51, cf_r (j := 392) (r := 50) (rfl : ro 392 = 50) (by decide), show akN 50 = 96 by decide +kernel, show akK 50 = 0 by decide +kernel]; rfl
  have tt75 : Bk K 393 1 g = ([(q13, .inl (K 0, 400, .inl (fun _ => 0)))] : va_W) := by rw [Bk_one, hq52, cf_r (j := 393) (r := 51) (rfl : ro 393 = 51) (by decide), show akN 51 = 400 by decide +kernel, show akK 51 = 0 by decide +kernel]; rfl
  have tt76 : Bk K 394 1 g = ([(q15, .inl (K 2, 64, .inr (.inl (fun _ => 0))))] : va_W) := by rw [Bk_one, hq53, cf_r (j := 394) (r := 52) (rfl : ro 394 = 52) (by decide), show akN 52 = 64 by decide +kernel, show akK 52 = 2 by decide +kernel]; rfl
  have tt77 : Bk K 395 1 g = ([(q17, .inl (K 2, 11, .inr (.inl (fun _ => 0))))] : va_W) := by rw [Bk_one, hq54, cf_r (j := 395) (r := 53) (rfl : ro 395 = 53) (by decide), show akN 53 = 11 by decide +kernel, show akK 53 = 2 by decide +kernel]; rfl
  have tt78 : Bk K 396 1 g = ([(q19, .inl (K 0, 127, .inl (fun _ => 0)))] : va_W) := by rw [Bk_one, hq55, cf_r (j := 396) (r := 54) (rfl : ro 396 = 54) (by decide), show akN 54 = 127 by decide +kernel, show akK 54 = 0 by decide +kernel]; rfl
  have tt79 : Bk K 397 1 g = ([(q21, .inl (K 0, 5, .inl (fun _ => 0)))] : va_W) := by rw [Bk_one, hq56, cf_r (j := 397) (r := 55) (rfl : ro 397 = 55) (by decide), show akN 55 = 5 by decide +kernel, show akK 55 = 0 by decide +kernel]; rfl
  have tt80 : Bk K 398 1 g = ([(q23, .inl (K 0, 5, .inl (fun _ => 0)))] : va_W) := by rw [Bk_one, hq57, cf_r (j := 398) (r := 56) (rfl : ro 398 = 56) (by decide), show akN 56 = 5 by decide +kernel, show akK 56 = 0 by decide +kernel]; rfl
  have tt81 : Bk K 399 1 g = ([(q25, .inl (K 0, 680, .inl (fun _ => 0)))] : va_W) := by rw [Bk_one, hq58, cf_r (j := 399) (r := 57) (rfl : ro 399 = 57) (by decide), show akN 57 = 680 by decide +kernel, show akK 57 = 0 by decide +kernel]; rfl
  have tt82 : Bk K 400 1 g = ([(q27, .inl (K 0, 34, .inl (fun _ => 0)))] : va_W) := by rw [Bk_one, hq59, cf_r (j := 400) (r := 58) (rfl : ro 400 = 58) (by decide), show akN 58 = 34 by decide +kernel, show akK 58 = 0 by decide +kernel]; rfl
  have tt83 : Bk K 401 1 g = ([(q29, .inl (K 0, 128, .inl (fun _ => 0)))] : va_W) := by rw [Bk_one, hq60, cf_r (j := 401) (r := 59) (rfl : ro 401 = 59) (by decide), show akN 59 = 128 by decide +kernel, show akK 59 = 0 by decide +kernel]; rfl
  have tt84 : Bk K 402 1 g = ([(q31, .inl (K 0, 366, .inl (fun _ => 0)))] : va_W) := by rw [Bk_one, hq61, cf_r (j := 402) (r := 60) (rfl : ro 402 = 60) (by decide), show akN 60 = 366 by decide +kernel, show akK 60 = 0 by decide +kernel]; rfl
  have tt85 : Bk K 403 1 g = ([(q33, .inl (K 3, 7, .inl (fun _ => 0)))] : va_W) := by rw [Bk_one, hq62, cf_r (j := 403) (r := 61) (rfl : ro 403 = 61) (by decide), show akN 61 = 7 by decide +kernel, show akK 61 = 3 by decide +kernel]; rfl
  have tt86 : Bk K 404 1 g = ([(q35, .inl (K 0, 35, .inl (fun _ => 0)))] : va_W) := by rw [Bk_one, hq63, cf_r (j := 404) (r := 62) (rfl : ro 404 = 62) (by decide), show akN 62 = 35 by decide +kernel, show akK 62 = 0 by decide +kernel]; rfl
  have tt87 : Bk K 405 1 g = ([(q37, .inl (K 0, 508, .inl (fun _ => 0)))] : va_W) := by rw [Bk_one, hq64, cf_r (j := 405) (r := 63) (rfl : ro 405 = 63) (by decide), show akN 63 = 508 by decide +kernel, show akK 63 = 0 by decide +kernel]; rfl
  have tt88 : Bk K 406 1 g = ([(q39, .inl (K 0, 4, .inl (fun _ => 0)))] : va_W) := by rw [Bk_one, hq65, cf_r (j := 406) (r := 64) (rfl : ro 406 = 64) (by decide), show akN 64 = 4 by decide +kernel, show akK 64 = 0 by decide +kernel]; rfl
  have tt89 : Bk K 407 1 g = ([(q41, .inl (K 0, 4, .inl (fun _ => 0)))] : va_W) := by rw [Bk_one, hq66, cf_r (j := 407) (r := 65) (rfl : ro 407 = 65) (by decide), show akN 65 = 4 by decide +kernel, show akK 65 = 0 by decide +kernel]; rfl
  have tt90 : Bk K 408 1 g = ([(q43, .inl (K 3, 4, .inl (fun _ => 0)))] : va_W) := by rw [Bk_one, hq67, cf_r (j := 408) (r := 66) (rfl : ro 408 = 66) (by decide), show akN 66 = 4 by decide +kernel, show akK 66 = 3 by decide +kernel]; rfl
  have ss91 : Bk K 386 23 g = Bk K 386 1 g ++ Bk K 387 22 g := Bk_split 386 1 22
  have ss92 : Bk K 387 22 g = Bk K 387 1 g ++ Bk K 388 21 g := Bk_split 387 1 21
  have ss93 : Bk K 388 21 g = Bk K 388 1 g ++ Bk K 389 20 g := Bk_split 388 1 20
  have ss94 : Bk K 389 20 g = Bk K 389 1 g ++ Bk K 390 19 g := Bk_split 389 1 19
  have ss95 : Bk K 390 19 g = Bk K 390 1 g ++ Bk K 391 18 g := Bk_split 390 1 18
  have ss96 : Bk K 391 18 g = Bk K 391 1 g ++ Bk K 392 17 g := Bk_split 391 1 17
  have ss97 : Bk K 392 17 g = Bk K 392 1 g ++ Bk K 393 16 g := Bk_split 392 1 16
  have ss98 : Bk K 393 16 g = Bk K 393 1 g ++ Bk K 394 15 g := Bk_split 393 1 15
  have ss99 : Bk K 394 15 g = Bk K 394 1 g ++ Bk K 395 14 g := Bk_split 394 1 14
  have ss100 : Bk K 395 14 g = Bk K 395 1 g ++ Bk K 396 13 g := Bk_split 395 1 13
  have ss101 : Bk K 396 13 g = Bk K 396 1 g ++ Bk K 397 12 g := Bk_split 396 1 12
  have ss102 : Bk K 397 12 g = Bk K 397 1 g ++ Bk K 398 11 g := Bk_split 397 1 11
  have ss103 : Bk K 398 11 g = Bk K 398 1 g ++ Bk K 399 10 g := Bk_split 398 1 10
  have ss104 : Bk K 399 10 g = Bk K 399 1 g ++ Bk K 400 9 g := Bk_split 399 1 9
  have ss105 : Bk K 400 9 g = Bk K 400 1 g ++ Bk K 401 8 g := Bk_split 400 1 8
  have ss106 : Bk K 401 8 g = Bk K 401 1 g ++ Bk K 402 7 g := Bk_split 401 1 7
  have ss107 : Bk K 402 7 g = Bk K 402 1 g ++ Bk K 403 6 g := Bk_split 402 1 6
  have ss108 : Bk K 403 6 g = Bk K 403 1 g ++ Bk K 404 5 g := Bk_split 403 1 5
  have ss109 : Bk K 404 5 g = Bk K 404 1 g ++ Bk K 405 4 g := Bk_split 404 1 4
  have ss110 : Bk K 405 4 g = Bk K 405 1 g ++ Bk K 406 3 g := Bk_split 405 1 3
  have ss111 : Bk K 406 3 g = Bk K 406 1 g ++ Bk K 407 2 g := Bk_split 406 1 2
  have ss112 : Bk K 407 2 g = Bk K 407 1 g ++ Bk K 408 1 g := Bk_split 407 1 1
  have ss113 : Bk K 408 1 g = Bk K 408 1 g ++ Bk K 409 0 g := Bk_split 408 1 0
  have hB114 : Bk K 386 23 g = X0 ++ (([(q1, .inl (K 1, 400, .inl (fun _ => 0)))] : va_W) ++ (([(q3, .inl (K 0, 2400, .inl (fun _ => 0)))] : va_W) ++ (([(q5, .inl (K 0, 7, .inl (fun _ => 0)))] : va_W) ++ (([(q7, .inl (K 0, 288, .inl (fun _ => 0)))] : va_W) ++ (([(q9, .inl (K 0, 6, .inl (fun _ => 0)))] : va_W) ++ (([(q11, .inl (K 0, 96, .inl (fun _ => 0)))] : va_W) ++ (([(q13, .inl (K 0, 400, .inl (fun _ => 0)))] : va_W) ++ (([(q15, .inl (K 2, 64, .inr (.inl (fun _ => 0))))] : va_W) ++ (([(q17, .inl (K 2, 11, .inr (.inl (fun _ => 0))))] : va_W) ++ (([(q19, .inl (K 0, 127, .inl (fun _ => 0)))] : va_W) ++ (([(q21, .inl (K 0, 5, .inl (fun _ => 0)))] : va_W) ++ (([(q23, .inl (K 0, 5, .inl (fun _ => 0)))] : va_W) ++ (([(q25, .inl (K 0, 680, .inl (fun _ => 0)))] : va_W) ++ (([(q27, .inl (K 0, 34, .inl (fun _ => 0)))] : va_W) ++ (([(q29, .inl (K 0, 128, .inl (fun _ => 0)))] : va_W) ++ (([(q31, .inl (K 0, 366, .inl (fun _ => 0)))] : va_W) ++ (([(q33, .inl (K 3, 7, .inl (fun _ => 0)))] : va_W) ++ (([(q35, .inl (K 0, 35, .inl (fun _ => 0)))] : va_W) ++ (([(q37, .inl (K 0, 508, .inl (fun _ => 0)))] : va_W) ++ (([(q39, .inl (K 0, 4, .inl (fun _ => 0)))] : va_W) ++ (([(q41, .inl (K 0, 4, .inl (fun _ => 0)))] : va_W) ++ (([(q43, .inl (K 3, 4, .inl (fun _ => 0)))] : va_W) ++ ([]))))))))))))))))))))))) := by rw [ss91, tt68, ss92, tt69, ss93, tt70, ss94, tt71, ss95, tt72, ss96, tt73, ss97, tt74, ss98, tt75, ss99, tt76, ss100, tt77, ss101, tt78, ss102, tt79, ss103, tt80, ss104, tt81, ss105, tt82, ss106, tt83, ss107, tt84, ss108, tt85, ss109, tt86, ss110, tt87, ss111, tt88, ss112, tt89, ss113, tt90, Bk_nil]
  have hB : X0 ++ (([(q1, .inl (K 1, 400, .inl (fun _ => 0)))] : va_W) ++ (([(q3, .inl (K 0, 2400, .inl (fun _ => 0)))] : va_W) ++ (([(q5, .inl (K 0, 7, .inl (fun _ => 0)))] : va_W) ++ (([(q7, .inl (K 0, 288, .inl (fun _ => 0)))] : va_W) ++ (([(q9, .inl (K 0, 6, .inl (fun _ => 0)))] : va_W) ++ (([(q11, .inl (K 0, 96, .inl (fun _ => 0)))] : va_W) ++ (([(q13, .inl (K 0, 400, .inl (fun _ => 0)))] : va_W) ++ (([(q15, .inl (K 2, 64, .inr (.inl (fun _ => 0))))] : va_W) ++ (([(q17, .inl (K 2, 11, .inr (.inl (fun _ => 0))))] : va_W) ++ (([(q19, .inl (K 0, 127, .inl (fun _ => 0)))] : va_W) ++ (([(q21, .inl (K 0, 5, .inl (fun _ => 0)))] : va_W) ++ (([(q23, .inl (K 0, 5, .inl (fun _ => 0)))] : va_W) ++ (([(q25, .inl (K 0, 680, .inl (fun _ => 0)))] : va_W) ++ (([(q27, .inl (K 0, 34, .inl (fun _ => 0)))] : va_W) ++ (([(q29, .inl (K 0, 128, .inl (fun _ => 0)))] : va_W) ++ (([(q31, .inl (K 0, 366, .inl (fun _ => 0)))] : va_W) ++ (([(q33, .inl (K 3, 7, .inl (fun _ => 0)))] : va_W) ++ (([(q35, .inl (K 0, 35, .inl (fun _ => 0)))] : va_W) ++ (([(q37, .inl (K 0, 508, .inl (fun _ => 0)))] : va_W) ++ (([(q39, .inl (K 0, 4, .inl (fun _ => 0)))] : va_W) ++ (([(q41, .inl (K 0, 4, .inl (fun _ => 0)))] : va_W) ++ (([(q43, .inl (K 3, 4, .inl (fun _ => 0)))] : va_W) ++ ([]))))))))))))))))))))))) = Bk K 386 23 g := by
    rw [hB114]
    try simp only [List.append_assoc, List.append_nil, List.nil_append, List.cons_append]
  rw [hW] at G
  have hP := hP.trans (List.Perm.of_eq hB)
  exact n_retv E G hr g hq45 hP (by decide) (by decide) dX11_init_188
