theorem mw_code_X11_sum : (Cond.code yX11_sum cX11_sum 2 (some .boolean) : Cond) ∈ cw := cw_of (List.mem_append_right _ (List.mem_append_right _ (List.mem_append_right _ (List.mem_append_right _ (List.mem_append_right _ (List.mem_append_right _ (List.mem_append_left _ (List.mem_of_getElem? (i := 75) rfl)))))))) (by decide +kernel)
theorem mw_inst_X11_sum : (Cond.instanceMethod yX11_sum : Cond) ∈ cw := cw_of (List.mem_append_right _ (List.mem_append_right _ (List.mem_append_right _ (List.mem_append_right _ (List.mem_append_right _ (List.mem_append_right _ (List.mem_append_left _ (List.mem_of_getElem? (i := 74) (by decide +kernel))))))))) (by decide +kernel)
theorem mw_ml_11_184 : (Cond.methodLink RX11 184 yX11_sum : Cond) ∈ cw := cw_of (List.mem_append_right _ (List.mem_append_right _ (List.mem_append_right _ (List.mem_append_right _ (List.mem_append_right _ (List.mem_append_right _ (List.mem_append_left _ (List.mem_of_getElem? (i := 72) (by decide +kernel))))))))) (by decide +kernel)
theorem mw_sel_X11_sum : (Cond.selects RX11 yX11_sum yX11_sum : Cond) ∈ cw := cw_of (List.mem_append_left _ (List.mem_of_getElem? (i := 65) (by decide +kernel))) (by decide +kernel)
theorem dX11_compare_0 : decode cX11_compare 0 = .ok (.aload_n 0, 1) := by decide +kernel
theorem dX11_compare_1 : decode cX11_compare 1 = .ok (.invokevirtual 184, 3) := by decide +kernel
theorem dX11_compare_4 : decode cX11_compare 4 = .ok (.ifCond .ne 5, 3) := by decide +kernel
theorem dX11_compare_7 : decode cX11_compare 7 = .ok (.iconst 0, 1) := by decide +kernel
theorem dX11_compare_8 : decode cX11_compare 8 = .ok (.ireturn, 1) := by decide +kernel
theorem dX11_compare_9 : decode cX11_compare 9 = .ok (.aload_n 0, 1) := by decide +kernel
theorem dX11_compare_10 : decode cX11_compare 10 = .ok (.invokevirtual 96, 3) := by decide +kernel
theorem dX11_compare_13 : decode cX11_compare 13 = .ok (.istore_n 1, 1) := by decide +kernel
theorem dX11_compare_14 : decode cX11_compare 14 = .ok (.aload_n 0, 1) := by decide +kernel
theorem dX11_compare_15 : decode cX11_compare 15 = .ok (.getfield 93, 3) := by decide +kernel
theorem dX11_compare_18 : decode cX11_compare 18 = .ok (.istore_n 2, 1) := by decide +kernel
theorem dX11_compare_19 : decode cX11_compare 19 = .ok (.iload_n 1, 1) := by decide +kernel
theorem dX11_compare_20 : decode cX11_compare 20 = .ok (.bipush 60, 2) := by decide +kernel
theorem dX11_compare_22 : decode cX11_compare 22 = .ok (.if_icmp .eq 22, 3) := by decide +kernel
theorem dX11_compare_25 : decode cX11_compare 25 = .ok (.iload_n 1, 1) := by decide +kernel
theorem dX11_compare_26 : decode cX11_compare 26 = .ok (.bipush 61, 2) := by decide +kernel
theorem dX11_compare_28 : decode cX11_compare 28 = .ok (.if_icmp .eq 16, 3) := by decide +kernel
theorem dX11_compare_31 : decode cX11_compare 31 = .ok (.iload_n 1, 1) := by decide +kernel
theorem dX11_compare_32 : decode cX11_compare 32 = .ok (.bipush 62, 2) := by decide +kernel
theorem dX11_compare_34 : decode cX11_compare 34 = .ok (.if_icmp .eq 10, 3) := by decide +kernel
theorem dX11_compare_37 : decode cX11_compare 37 = .ok (.aload_n 0, 1) := by decide +kernel
theorem dX11_compare_38 : decode cX11_compare 38 = .ok (.iconst 0, 1) := by decide +kernel
theorem dX11_compare_39 : decode cX11_compare 39 = .ok (.iload_n 2, 1) := by decide +kernel
theorem dX11_compare_40 : decode cX11_compare 40 = .ok (.invokevirtual 114, 3) := by decide +kernel
theorem dX11_compare_43 : decode cX11_compare 43 = .ok (.ireturn, 1) := by decide +kernel
theorem dX11_compare_44 : decode cX11_compare 44 = .ok (.aload_n 0, 1) := by decide +kernel
theorem dX11_compare_45 : decode cX11_compare 45 = .ok (.dup, 1) := by decide +kernel
theorem dX11_compare_46 : decode cX11_compare 46 = .ok (.getfield 93, 3) := by decide +kernel
theorem dX11_compare_49 : decode cX11_compare 49 = .ok (.iconst 1, 1) := by decide +kernel
theorem dX11_compare_50 : decode cX11_compare 50 = .ok (.iadd, 1) := by decide +kernel
theorem dX11_compare_51 : decode cX11_compare 51 = .ok (.putfield 93, 3) := by decide +kernel
theorem dX11_compare_54 : decode cX11_compare 54 = .ok (.iload_n 1, 1) := by decide +kernel
theorem dX11_compare_55 : decode cX11_compare 55 = .ok (.bipush 61, 2) := by decide +kernel
theorem dX11_compare_57 : decode cX11_compare 57 = .ok (.if_icmp .eq 32, 3) := by decide +kernel
theorem dX11_compare_60 : decode cX11_compare 60 = .ok (.aload_n 0, 1) := by decide +kernel
theorem dX11_compare_61 : decode cX11_compare 61 = .ok (.getfield 93, 3) := by decide +kernel
theorem dX11_compare_64 : decode cX11_compare 64 = .ok (.aload_n 0, 1) := by decide +kernel
theorem dX11_compare_65 : decode cX11_compare 65 = .ok (.getfield 83, 3) := by decide +kernel
theorem dX11_compare_68 : decode cX11_compare 68 = .ok (.if_icmp .ge 21, 3) := by decide +kernel
theorem dX11_compare_71 : decode cX11_compare 71 = .ok (.aload_n 0, 1) := by decide +kernel
theorem dX11_compare_72 : decode cX11_compare 72 = .ok (.getfield 7, 3) := by decide +kernel
theorem dX11_compare_75 : decode cX11_compare 75 = .ok (.aload_n 0, 1) := by decide +kernel
theorem dX11_compare_76 : decode cX11_compare 76 = .ok (.getfield 93, 3) := by decide +kernel
theorem dX11_compare_79 : decode cX11_compare 79 = .ok (.baload, 1) := by decide +kernel
theorem dX11_compare_80 : decode cX11_compare 80 = .ok (.bipush 61, 2) := by decide +kernel
theorem dX11_compare_82 : decode cX11_compare 82 = .ok (.if_icmp .ne 7, 3) := by decide +kernel
theorem dX11_compare_85 : decode cX11_compare 85 = .ok (.iconst 1, 1) := by decide +kernel
theorem dX11_compare_86 : decode cX11_compare 86 = .ok (.goto 4, 3) := by decide +kernel
theorem dX11_compare_89 : decode cX11_compare 89 = .ok (.iconst 0, 1) := by decide +kernel
theorem dX11_compare_90 : decode cX11_compare 90 = .ok (.istore_n 3, 1) := by decide +kernel
theorem dX11_compare_91 : decode cX11_compare 91 = .ok (.iload_n 3, 1) := by decide +kernel
theorem dX11_compare_92 : decode cX11_compare 92 = .ok (.ifCond .eq 13, 3) := by decide +kernel
theorem dX11_compare_95 : decode cX11_compare 95 = .ok (.aload_n 0, 1) := by decide +kernel
theorem dX11_compare_96 : decode cX11_compare 96 = .ok (.dup, 1) := by decide +kernel
theorem dX11_compare_97 : decode cX11_compare 97 = .ok (.getfield 93, 3) := by decide +kernel
theorem dX11_compare_100 : decode cX11_compare 100 = .ok (.iconst 1, 1) := by decide +kernel
theorem dX11_compare_101 : decode cX11_compare 101 = .ok (.iadd, 1) := by decide +kernel
theorem dX11_compare_102 : decode cX11_compare 102 = .ok (.putfield 93, 3) := by decide +kernel
theorem dX11_compare_105 : decode cX11_compare 105 = .ok (.aload_n 0, 1) := by decide +kernel
theorem dX11_compare_106 : decode cX11_compare 106 = .ok (.iload_n 2, 1) := by decide +kernel
theorem dX11_compare_107 : decode cX11_compare 107 = .ok (.invokevirtual 171, 3) := by decide +kernel
theorem dX11_compare_110 : decode cX11_compare 110 = .ok (.ifCond .ne 5, 3) := by decide +kernel
theorem dX11_compare_113 : decode cX11_compare 113 = .ok (.iconst 0, 1) := by decide +kernel
theorem dX11_compare_114 : decode cX11_compare 114 = .ok (.ireturn, 1) := by decide +kernel
theorem dX11_compare_115 : decode cX11_compare 115 = .ok (.iload_n 1, 1) := by decide +kernel
theorem dX11_compare_116 : decode cX11_compare 116 = .ok (.bipush 60, 2) := by decide +kernel
theorem dX11_compare_118 : decode cX11_compare 118 = .ok (.if_icmp .ne 15, 3) := by decide +kernel
theorem dX11_compare_121 : decode cX11_compare 121 = .ok (.iload_n 3, 1) := by decide +kernel
theorem dX11_compare_122 : decode cX11_compare 122 = .ok (.ifCond .eq 7, 3) := by decide +kernel
theorem dX11_compare_125 : decode cX11_compare 125 = .ok (.iconst 1, 1) := by decide +kernel
theorem dX11_compare_126 : decode cX11_compare 126 = .ok (.goto 26, 3) := by decide +kernel
theorem dX11_compare_129 : decode cX11_compare 129 = .ok (.iconst 0, 1) := by decide +kernel
theorem dX11_compare_130 : decode cX11_compare 130 = .ok (.goto 22, 3) := by decide +kernel
theorem dX11_compare_133 : decode cX11_compare 133 = .ok (.iload_n 1, 1) := by decide +kernel
theorem dX11_compare_134 : decode cX11_compare 134 = .ok (.bipush 61, 2) := by decide +kernel
theorem dX11_compare_136 : decode cX11_compare 136 = .ok (.if_icmp .ne 7, 3) := by decide +kernel
theorem dX11_compare_139 : decode cX11_compare 139 = .ok (.iconst 2, 1) := by decide +kernel
theorem dX11_compare_140 : decode cX11_compare 140 = .ok (.goto 12, 3) := by decide +kernel
theorem dX11_compare_143 : decode cX11_compare 143 = .ok (.iload_n 3, 1) := by decide +kernel
theorem dX11_compare_144 : decode cX11_compare 144 = .ok (.ifCond .eq 7, 3) := by decide +kernel
theorem dX11_compare_147 : decode cX11_compare 147 = .ok (.iconst 3, 1) := by decide +kernel
theorem dX11_compare_148 : decode cX11_compare 148 = .ok (.goto 4, 3) := by decide +kernel
theorem dX11_compare_151 : decode cX11_compare 151 = .ok (.iconst 4, 1) := by decide +kernel
theorem dX11_compare_152 : decode cX11_compare 152 = .ok (.istore 4, 2) := by decide +kernel
theorem dX11_compare_154 : decode cX11_compare 154 = .ok (.aload_n 0, 1) := by decide +kernel
theorem dX11_compare_155 : decode cX11_compare 155 = .ok (.invokevirtual 184, 3) := by decide +kernel
theorem dX11_compare_158 : decode cX11_compare 158 = .ok (.ifCond .ne 5, 3) := by decide +kernel
theorem dX11_compare_161 : decode cX11_compare 161 = .ok (.iconst 0, 1) := by decide +kernel
theorem dX11_compare_162 : decode cX11_compare 162 = .ok (.ireturn, 1) := by decide +kernel
theorem dX11_compare_163 : decode cX11_compare 163 = .ok (.aload_n 0, 1) := by decide +kernel
theorem dX11_compare_164 : decode cX11_compare 164 = .ok (.bipush 6, 2) := by decide +kernel
theorem dX11_compare_166 : decode cX11_compare 166 = .ok (.iload 4, 2) := by decide +kernel
theorem dX11_compare_168 : decode cX11_compare 168 = .ok (.iadd, 1) := by decide +kernel
theorem dX11_compare_169 : decode cX11_compare 169 = .ok (.iconst 0, 1) := by decide +kernel
theorem dX11_compare_170 : decode cX11_compare 170 = .ok (.invokevirtual 163, 3) := by decide +kernel
theorem dX11_compare_173 : decode cX11_compare 173 = .ok (.iconst 1, 1) := by decide +kernel
theorem dX11_compare_174 : decode cX11_compare 174 = .ok (.ireturn, 1) := by decide +kernel
theorem hd_X11_sum : yX11_sum.cls ≠ "java/lang/invoke/MethodHandle" ∧ yX11_sum.cls ≠ "java/lang/invoke/VarHandle" ∧ (parseMethodDescriptor yX11_sum.desc).map (fun d => d.parameters.length) = some 0 := ⟨by decide +kernel, by decide +kernel, by decide +kernel⟩
set_option maxHeartbeats 4000000 in
set_option maxRecDepth 100000 in
theorem v_compare (l : Launch) (D : va_G) (K : Nat → ClassId) (ad : Nat → Nat) (z : TS) (o : Ok z) (hp : PIx z) (hs : 0 ≤ SLk z) : cI l yX11_compare cX11_compare 5 .boolean ({ frames := 6, cells := 0, slots := 0, locals := 130 }) D K ad z [.ref (ad 386)] (fun r u => Ok u ∧ KP1 z u ∧ iv 0 1 r ∧ (Scx z u) ∧ (PIx u) ∧ (SLk z ≤ SLk u) ∧ (¬ r = 0 → Gd 1 0 z u)) := by
  have sc0 : Scx z z := Scx.rf hp.2.1
  have sl_0 : SLk z + 0 ≤ SLk z := sl_0
  have gd_0 : Gd 0 0 z z := Gd.rf
  refine t_enterI (by decide) (Nat.le_of_ble_eq_true rfl) rfl rfl ?_
  intro p e s m args below meth c A R Q H locs ls E hfr hlo RET G hl
  have E : mE p s m meth c cX11_compare args 5 RX11 D K A := E
  have hl : lv_has ls 5 [(0, .ref (ad 386))] := hl
  refine lv_aload_n E.1 E.2.1 dX11_compare_0 rfl (lv_at hl 0 rfl) ?_
  refine t_vi E G hl (v_sum l D K ad z o hp (by have h1 := hs; have h2 := sl_0; omega)) 11 (rfl : ro 386 = 11) (by decide) rfl rfl 0 rfl mw_code_X11_sum mw_ini_11 mw_ml_11_184 mw_inst_X11_sum mw_sel_X11_sum hd_X11_sum ⟨Nat.le_trans (by decide) hfr, Nat.le_trans (by decide) hlo⟩ rfl rfl rfl (Nat.le_of_ble_eq_true rfl) dX11_compare_1 (fun r2 zz1 H locs hp3 G => ?_)
  obtain ⟨oo4, kk5, b6, h7, h8, h9, h10⟩ := hp3
  have kk11 : KP1 z zz1 := KPf.tr KPf.rf kk5
  have h12 := Scx.tr sc0 h7
  have h13 : SLk z + 0 ≤ SLk zz1 := by have h1 := sl_0; have h2 := h9; omega
  refine lv_if_ne (tgt := 9) E.1 E.2.1 dX11_compare_4 (by decide) (fun c14 => ?_) (fun c14 => ?_)
  · skip
    have b15 : iv 1 1 r2 := ne_lo c14 b6 (by decide) (by decide)
    have h16 : Gd 1 0 z zz1 := Gd.tr gd_0 (KPf.rf : KP1 z z) (h10 c14) (by decide) (by decide)
    refine lv_aload_n E.1 E.2.1 dX11_compare_9 rfl (lv_at hl 0 rfl) ?_
    refine t_vi E G hl (v_see l D K ad zz1 oo4 h12.1) 11 (rfl : ro 386 = 11) (by decide) rfl rfl 0 rfl mw_code_X11_see mw_ini_11 mw_ml_11_96 mw_inst_X11_see mw_sel_X11_see hd_X11_see ⟨Nat.le_trans (by decide) hfr, Nat.le_trans (by decide) hlo⟩ rfl rfl rfl (Nat.le_of_ble_eq_true rfl) dX11_compare_10 (fun r18 zz17 H locs hp19 G => ?_)
    obtain ⟨oo20, kk21, b22, h23, h24, h25, h26⟩ := hp19
    have kk27 : KP1 z zz17 := KPf.tr kk11 (KN8.p1 kk21)
    have h28 := Scx.tr h12 h23
    have sm29 := Same.of kk21 rfl rfl rfl
    have h30 : PIx zz17 := pi_q h8 sm29 h28.1 (kk21.1 386 12 rfl) (kk21.1 386 11 rfl)
    have h31 : SLk z + 0 ≤ SLk zz17 := sl_q 0 h13 sm29 (by have h := h23.2; omega) (by decide)
    have h32 := Gd.sm h16 sm29
    refine lv_istore_n (lv' := [(1, .int r18), (0, .ref (ad 386))]) E.1 E.2.1 dX11_compare_13 rfl hl (by decide) rfl (fun ls hl => ?_)
    refine lv_aload_n E.1 E.2.1 dX11_compare_14 rfl (lv_at hl 1 rfl) ?_
    refine t_get E G 11 8 (rfl : ro 386 = 11) (C := RX11) (T := TX11) (N := 37) rfl (by decide) (by decide) (by decide) mw_fl_11_93 (fvl_i rfl) dX11_compare_15 ?_
    refine lv_topi (fun v33 e34 => ?_)
    have b35 : iv 0 400 v33 := by rw [e34]; exact oo20.i 11 8 (rfl : ro 386 = 11)
    refine lv_istore_n (lv' := [(2, .int v33), (1, .int r18), (0, .ref (ad 386))]) E.1 E.2.1 dX11_compare_18 rfl hl (by decide) rfl (fun ls hl => ?_)
    refine lv_iload_n E.1 E.2.1 dX11_compare_19 rfl (lv_at hl 1 rfl) ?_
    refine lv_bipush (v := 60) E.1 E.2.1 dX11_compare_20 (by decide) ?_
    refine lv_icmp_eq (tgt := 44) E.1 E.2.1 dX11_compare_22 (by decide) (fun c36 => ?_) (fun c36 => ?_)
    · skip
      have b37 : iv 60 60 r18 := iv_eq c36 (iv_lit (lo := 60) (hi := 60) 60 (by decide) (by decide))
      have h38 : LSx zz17 := h26 (Int.le_trans (by decide) b37.1)
      have b39 : iv 0 399 v33 := ⟨b35.1, (LSx.iv oo20 h38 e34.symm.symm).2⟩
      refine lv_aload_n E.1 E.2.1 dX11_compare_44 rfl (lv_at hl 2 rfl) ?_
      refine lv_dup E.1 E.2.1 dX11_compare_45 rfl ?_
      refine t_get E G 11 8 (rfl : ro 386 = 11) (C := RX11) (T := TX11) (N := 37) rfl (by decide) (by decide) (by decide) mw_fl_11_93 (fvl_i rfl) dX11_compare_46 ?_
      refine m_ci v33 e34.symm ?_
      refine lv_iconst (v := 1) E.1 E.2.1 dX11_compare_49 (by decide) ?_
      refine lv_iadd E.1 E.2.1 dX11_compare_50 ?_
      refine lv_topi (fun v40 e41 => ?_)
      have b42 : iv 1 400 v40 := by rw [e41]; exact iv_add b39 (iv_lit (lo := 1) (hi := 1) 1 (by decide) (by decide)) (by decide) (by decide) (by decide) (by decide)
      have l43 : v40.toInt = 1 + 1 * v33.toInt := (show v40.toInt = v33.toInt + 1 by rw [e41]; exact ti_addc 1 (by decide) b39 (by decide) (by decide)).trans (by omega)
      refine t_puti E G 11 8 (rfl : ro 386 = 11) (C := RX11) (T := TX11) (N := 37) rfl (by decide) (by decide) (by decide) rfl rfl mw_fl_11_93 rfl dX11_compare_51 (fun H locs G => ?_)
      obtain ⟨zz48, G, oo49, kk50, h51, h44, h45, h46, h47⟩ : ∃ u : TS, mG D A s H locs (wd K ad u) ∧ Ok u ∧ KP1 z u ∧ tI u 386 8 = v40 ∧ (Scx z u) ∧ (PIx u) ∧ (SLk z + 1 ≤ SLk u) ∧ (Gd 1 0 z u) := ⟨_, G, ok_i oo20 11 (rfl : ro 386 = 11) (iv_mono b42 (by decide) (by decide)) (by decide), KPf.tr kk27 (KPf_i 11 (rfl : ro 386 = 11) (by decide)), sI_self, (Scx.tr h28 (up_ls e34.symm.symm h38 (l43.trans (by omega))).1), (pi_q h30 (Same.i (by decide)) (up_ls e34.symm.symm h38 (l43.trans (by omega))).1.1 rfl rfl), (sl_q 1 h31 (Same.i (by decide)) (up_ls e34.symm.symm h38 (l43.trans (by omega))).2 (by decide)), (Gd.sm h32 (Same.i (by decide)))⟩
      refine lv_iload_n E.1 E.2.1 dX11_compare_54 rfl (lv_at hl 1 rfl) ?_
      refine lv_bipush (v := 61) E.1 E.2.1 dX11_compare_55 (by decide) ?_
      refine lv_icmp_eq (tgt := 89) E.1 E.2.1 dX11_compare_57 (by decide) (fun h => absurd h (ivne1 b37 (iv_lit (lo := 61) (hi := 61) 61 (by decide) (by decide)) (by decide))) (fun _ => ?_)
      refine lv_aload_n E.1 E.2.1 dX11_compare_60 rfl (lv_at hl 2 rfl) ?_
      refine t_get E G 11 8 (rfl : ro 386 = 11) (C := RX11) (T := TX11) (N := 37) rfl (by decide) (by decide) (by decide) mw_fl_11_93 (fvl_i rfl) dX11_compare_61 ?_
      refine m_ci v40 h51 ?_
      refine lv_aload_n E.1 E.2.1 dX11_compare_64 rfl (lv_at hl 2 rfl) ?_
      refine t_get E G 11 1 (rfl : ro 386 = 11) (C := RX11) (T := TX11) (N := 37) rfl (by decide) (by decide) (by decide) mw_fl_11_83 (fvl_i rfl) dX11_compare_65 ?_
      refine lv_topi (fun v52 e53 => ?_)
      have b54 : iv 0 400 v52 := by rw [e53]; exact oo49.i 11 1 (rfl : ro 386 = 11)
      refine lv_icmp_ge (tgt := 89) E.1 E.2.1 dX11_compare_68 (by decide) (fun c55 => ?_) (fun c55 => ?_)
      · skip
        refine lv_iconst (v := 0) E.1 E.2.1 dX11_compare_89 (by decide) ?_
        refine lv_istore_n (lv' := [(3, .int 0), (2, .int v33), (1, .int r18), (0, .ref (ad 386))]) E.1 E.2.1 dX11_compare_90 rfl hl (by decide) rfl (fun ls hl => ?_)
        refine lv_iload_n E.1 E.2.1 dX11_compare_91 rfl (lv_at hl 0 rfl) ?_
        refine lv_if_eq (tgt := 105) E.1 E.2.1 dX11_compare_92 (by decide) (fun _ => ?_) (fun h => absurd (by decide) h)
        refine lv_aload_n E.1 E.2.1 dX11_compare_105 rfl (lv_at hl 3 rfl) ?_
        refine lv_iload_n E.1 E.2.1 dX11_compare_106 rfl (lv_at hl 1 rfl) ?_
        refine t_vi E G hl (v_makes l D K ad zz48 oo49 v33 h45) 11 (rfl : ro 386 = 11) (by decide) rfl rfl 1 rfl mw_code_X11_makes mw_ini_11 mw_ml_11_171 mw_inst_X11_makes mw_sel_X11_makes hd_X11_makes ⟨Nat.le_trans (by decide) hfr, Nat.le_trans (by decide) hlo⟩ rfl rfl rfl (Nat.le_of_ble_eq_true rfl) dX11_compare_107 (fun r57 zz56 H locs hp58 G => ?_)
        obtain ⟨oo59, kk60, b61, h62, h63⟩ := hp58
        have kk64 : KP1 z zz56 := KPf.tr kk50 (KMk.p1 kk60)
        have h65 : tI zz56 386 8 = v40 := KF.i kk60 11 (rfl : ro 386 = 11) (by decide) h51
        have h66 : tI zz56 386 1 = v52 := KF.i kk60 11 (rfl : ro 386 = 11) (by decide) e53.symm
        have h67 := Scx.tr h44 (Scx.k h44.1 kk60 rfl rfl)
        have sm68 := Same.of kk60 rfl rfl rfl
        have h69 : SLk z + 1 ≤ SLk zz56 := sl_q 0 h46 sm68 (by rw [kk60.1 386 8 rfl]; omega) (by decide)
        have h70 := Gd.sm h47 sm68
        refine lv_if_ne (tgt := 115) E.1 E.2.1 dX11_compare_110 (by decide) (fun c71 => ?_) (fun c71 => ?_)
        · skip
          have b72 : iv 1 1 r57 := ne_lo c71 b61 (by decide) (by decide)
          refine lv_iload_n E.1 E.2.1 dX11_compare_115 rfl (lv_at hl 2 rfl) ?_
          refine lv_bipush (v := 60) E.1 E.2.1 dX11_compare_116 (by decide) ?_
          refine lv_icmp_ne (tgt := 133) E.1 E.2.1 dX11_compare_118 (by decide) (fun h => absurd c36 h) (fun _ => ?_)
          refine lv_iload_n E.1 E.2.1 dX11_compare_121 rfl (lv_at hl 0 rfl) ?_
          refine lv_if_eq (tgt := 129) E.1 E.2.1 dX11_compare_122 (by decide) (fun _ => ?_) (fun h => absurd (by decide) h)
          refine lv_iconst (v := 0) E.1 E.2.1 dX11_compare_129 (by decide) ?_
          refine lv_goto (tgt := 152) E.1 E.2.1 dX11_compare_130 (by decide) ?_
          refine lv_istore (lv' := [(4, .int 0), (3, .int 0), (2, .int v33), (1, .int r18), (0, .ref (ad 386))]) E.1 E.2.1 dX11_compare_152 hl (by decide) rfl (fun ls hl => ?_)
          refine lv_aload_n E.1 E.2.1 dX11_compare_154 rfl (lv_at hl 4 rfl) ?_
          refine t_vi E G hl (v_sum l D K ad zz56 oo59 h62 (by have h1 := hs; have h2 := h69; omega)) 11 (rfl : ro 386 = 11) (by decide) rfl rfl 0 rfl mw_code_X11_sum mw_ini_11 mw_ml_11_184 mw_inst_X11_sum mw_sel_X11_sum hd_X11_sum ⟨Nat.le_trans (by decide) hfr, Nat.le_trans (by decide) hlo⟩ rfl rfl rfl (Nat.le_of_ble_eq_true rfl) dX11_compare_155 (fun r74 zz73 H locs hp75 G => ?_)
          obtain ⟨oo76, kk77, b78, h79, h80, h81, h82⟩ := hp75
          have kk83 : KP1 z zz73 := KPf.tr kk64 kk77
          have h84 : tI zz73 386 1 = v52 := KPf.i kk77 11 (rfl : ro 386 = 11) (by decide) h66
          have h85 := Scx.tr h67 h79
          have h86 : SLk z + 1 ≤ SLk zz73 := by have h1 := h69; have h2 := h81; omega
          refine lv_if_ne (tgt := 163) E.1 E.2.1 dX11_compare_158 (by decide) (fun c87 => ?_) (fun c87 => ?_)
          · skip
            have b88 : iv 1 1 r74 := ne_lo c87 b78 (by decide) (by decide)
            have h89 : Gd 2 0 z zz73 := Gd.tr h70 kk64 (h82 c87) (by decide) (by decide)
            refine lv_aload_n E.1 E.2.1 dX11_compare_163 rfl (lv_at hl 4 rfl) ?_
            refine lv_bipush (v := 6) E.1 E.2.1 dX11_compare_164 (by decide) ?_
            refine lv_iload E.1 E.2.1 dX11_compare_166 (lv_at hl 0 rfl) ?_
            refine lv_iadd E.1 E.2.1 dX11_compare_168 ?_
            refine m_ci 6 (by decide) ?_
            refine lv_iconst (v := 0) E.1 E.2.1 dX11_compare_169 (by decide) ?_
            refine t_vv E G hl (v_puts_op l D K ad zz73 oo76 (6 : Int32) (iv_mono (iv_lit (lo := 6) (hi := 6) 6 (by decide) (by decide)) (by decide) (by decide)) h80 (le399 oo76 (by have h1 := hs; have h2 := h86; omega)) (by decide)) 11 (rfl : ro 386 = 11) (by decide) rfl rfl 2 rfl mw_code_X11_puts mw_ini_11 mw_ml_11_163 mw_inst_X11_puts mw_sel_X11_puts hd_X11_puts ⟨Nat.le_trans (by decide) hfr, Nat.le_trans (by decide) hlo⟩ rfl rfl rfl (Nat.le_of_ble_eq_true rfl) dX11_compare_170 (fun zz90 H locs hp92 G => ?_)
            obtain ⟨oo93, kk94, h95, h96, h97⟩ := hp92
            have kk98 : KP1 z zz90 := KPf.tr kk83 (KPU.p1 kk94)
            have h99 : tI zz90 386 1 = v52 := KPf.i kk94 11 (rfl : ro 386 = 11) (by decide) h84
            have h100 := Scx.tr h85 (scx_p h85.1 kk94 rfl rfl)
            have h101 : SLk z + 0 ≤ SLk zz90 := by have h1 := h86; have h2 := h96; omega
            have h102 : Gd 1 0 z zz90 := Gd.tr h89 kk83 h97 (by decide) (by decide)
            refine lv_iconst (v := 1) E.1 E.2.1 dX11_compare_173 (by decide) ?_
            exact RET G ⟨oo93, kk98, (iv_mono (iv_lit (lo := 1) (hi := 1) 1 (by decide) (by decide)) (by decide) (by decide)), h100, h95, (by have h := h101; omega), (fun _ => Gd.wk h102 (by decide) (by decide))⟩ (by decide) dX11_compare_174
          · skip
            have b103 : iv 0 0 r74 := iv_eq c87 (iv_lit (lo := 0) (hi := 0) 0 (by decide) (by decide))
            refine lv_iconst (v := 0) E.1 E.2.1 dX11_compare_161 (by decide) ?_
            exact RET G ⟨oo76, kk83, (iv_mono (iv_lit (lo := 0) (hi := 0) 0 (by decide) (by decide)) (by decide) (by decide)), h85, h80, (by have h := h86; omega), (fun h => absurd rfl h)⟩ (by decide) dX11_compare_162
        · skip
          have b104 : iv 0 0 r57 := iv_eq c71 (iv_lit (lo := 0) (hi := 0) 0 (by decide) (by decide))
          refine lv_iconst (v := 0) E.1 E.2.1 dX11_compare_113 (by decide) ?_
          exact RET G ⟨oo59, kk64, (iv_mono (iv_lit (lo := 0) (hi := 0) 0 (by decide) (by decide)) (by decide) (by decide)), h67, h62, (by have h := h69; omega), (fun h => absurd rfl h)⟩ (by decide) dX11_compare_114
      · skip
        have b105 : iv 1 399 v40 := lt_l (Int32.not_le.mp c55) b42 b54 (by decide)
        have b106 : iv 2 400 v52 := lt_r (Int32.not_le.mp c55) b42 b54 (by decide)
        have h107 : LSx zz48 := ls_of h51.symm e53.symm.symm c55
        refine lv_aload_n E.1 E.2.1 dX11_compare_71 rfl (lv_at hl 2 rfl) ?_
        refine t_get E G 11 0 (rfl : ro 386 = 11) (C := RX11) (T := TX11) (N := 37) rfl (by decide) (by decide) (by decide) mw_fl_11_7 (v := .ref (ad 387)) (fvl_o (n := 1) rfl) dX11_compare_72 ?_
        refine lv_aload_n E.1 E.2.1 dX11_compare_75 rfl (lv_at hl 2 rfl) ?_
        refine t_get E G 11 8 (rfl : ro 386 = 11) (C := RX11) (T := TX11) (N := 37) rfl (by decide) (by decide) (by decide) mw_fl_11_93 (fvl_i rfl) dX11_compare_76 ?_
        refine m_ci v40 h51 ?_
        refine t_bald E G 45 (rfl : ro 387 = 45) (by decide) (by decide) rfl (n := 400) rfl (iv_vp b105 (by decide) (by decide)) dX11_compare_79 ?_
        refine lv_topi (fun v108 e109 => ?_)
        have b110 : iv (-128) 127 v108 := by rw [e109]; exact iv_mono (rd_u oo49 45 (rfl : ro 387 = 45) (by decide) _) (by decide) (by decide)
        refine lv_bipush (v := 61) E.1 E.2.1 dX11_compare_80 (by decide) ?_
        refine lv_icmp_ne (tgt := 89) E.1 E.2.1 dX11_compare_82 (by decide) (fun c111 => ?_) (fun c111 => ?_)
        · skip
          refine lv_iconst (v := 0) E.1 E.2.1 dX11_compare_89 (by decide) ?_
          refine lv_istore_n (lv' := [(3, .int 0), (2, .int v33), (1, .int r18), (0, .ref (ad 386))]) E.1 E.2.1 dX11_compare_90 rfl hl (by decide) rfl (fun ls hl => ?_)
          refine lv_iload_n E.1 E.2.1 dX11_compare_91 rfl (lv_at hl 0 rfl) ?_
          refine lv_if_eq (tgt := 105) E.1 E.2.1 dX11_compare_92 (by decide) (fun _ => ?_) (fun h => absurd (by decide) h)
          refine lv_aload_n E.1 E.2.1 dX11_compare_105 rfl (lv_at hl 3 rfl) ?_
          refine lv_iload_n E.1 E.2.1 dX11_compare_106 rfl (lv_at hl 1 rfl) ?_
          refine t_vi E G hl (v_makes l D K ad zz48 oo49 v33 h45) 11 (rfl : ro 386 = 11) (by decide) rfl rfl 1 rfl mw_code_X11_makes mw_ini_11 mw_ml_11_171 mw_inst_X11_makes mw_sel_X11_makes hd_X11_makes ⟨Nat.le_trans (by decide) hfr, Nat.le_trans (by decide) hlo⟩ rfl rfl rfl (Nat.le_of_ble_eq_true rfl) dX11_compare_107 (fun r113 zz112 H locs hp114 G => ?_)
          obtain ⟨oo115, kk116, b117, h118, h119⟩ := hp114
          have kk120 : KP1 z zz112 := KPf.tr kk50 (KMk.p1 kk116)
          have h121 : tI zz112 386 8 = v40 := KF.i kk116 11 (rfl : ro 386 = 11) (by decide) h51
          have h122 : tI zz112 386 1 = v52 := KF.i kk116 11 (rfl : ro 386 = 11) (by decide) e53.symm
          have h123 := Scx.tr h44 (Scx.k h44.1 kk116 rfl rfl)
          have h124 : LSx zz112 := LSx.k h107 kk116 (kk116.1 386 8 rfl) rfl
          have sm125 := Same.of kk116 rfl rfl rfl
          have h126 : SLk z + 1 ≤ SLk zz112 := sl_q 0 h46 sm125 (by rw [kk116.1 386 8 rfl]; omega) (by decide)
          have h127 := Gd.sm h47 sm125
          refine lv_if_ne (tgt := 115) E.1 E.2.1 dX11_compare_110 (by decide) (fun c128 => ?_) (fun c128 => ?_)
          · skip
            have b129 : iv 1 1 r113 := ne_lo c128 b117 (by decide) (by decide)
            refine lv_iload_n E.1 E.2.1 dX11_compare_115 rfl (lv_at hl 2 rfl) ?_
            refine lv_bipush (v := 60) E.1 E.2.1 dX11_compare_116 (by decide) ?_
            refine lv_icmp_ne (tgt := 133) E.1 E.2.1 dX11_compare_118 (by decide) (fun h => absurd c36 h) (fun _ => ?_)
            refine lv_iload_n E.1 E.2.1 dX11_compare_121 rfl (lv_at hl 0 rfl) ?_
            refine lv_if_eq (tgt := 129) E.1 E.2.1 dX11_compare_122 (by decide) (fun _ => ?_) (fun h => absurd (by decide) h)
            refine lv_iconst (v := 0) E.1 E.2.1 dX11_compare_129 (by decide) ?_
            refine lv_goto (tgt := 152) E.1 E.2.1 dX11_compare_130 (by decide) ?_
            refine lv_istore (lv' := [(4, .int 0), (3, .int 0), (2, .int v33), (1, .int r18), (0, .ref (ad 386))]) E.1 E.2.1 dX11_compare_152 hl (by decide) rfl (fun ls hl => ?_)
            refine lv_aload_n E.1 E.2.1 dX11_compare_154 rfl (lv_at hl 4 rfl) ?_
            refine t_vi E G hl (v_sum l D K ad zz112 oo115 h118 (by have h1 := hs; have h2 := h126; omega)) 11 (rfl : ro 386 = 11) (by decide) rfl rfl 0 rfl mw_code_X11_sum mw_ini_11 mw_ml_11_184 mw_inst_X11_sum mw_sel_X11_sum hd_X11_sum ⟨Nat.le_trans (by decide) hfr, Nat.le_trans (by decide) hlo⟩ rfl rfl rfl (Nat.le_of_ble_eq_true rfl) dX11_compare_155 (fun r131 zz130 H locs hp132 G => ?_)
            obtain ⟨oo133, kk134, b135, h136, h137, h138, h139⟩ := hp132
            have kk140 : KP1 z zz130 := KPf.tr kk120 kk134
            have h141 : tI zz130 386 1 = v52 := KPf.i kk134 11 (rfl : ro 386 = 11) (by decide) h122
            have h142 := Scx.tr h123 h136
            have h143 : SLk z + 1 ≤ SLk zz130 := by have h1 := h126; have h2 := h138; omega
            refine lv_if_ne (tgt := 163) E.1 E.2.1 dX11_compare_158 (by decide) (fun c144 => ?_) (fun c144 => ?_)
            · skip
              have b145 : iv 1 1 r131 := ne_lo c144 b135 (by decide) (by decide)
              have h146 : Gd 2 0 z zz130 := Gd.tr h127 kk120 (h139 c144) (by decide) (by decide)
              refine lv_aload_n E.1 E.2.1 dX11_compare_163 rfl (lv_at hl 4 rfl) ?_
              refine lv_bipush (v := 6) E.1 E.2.1 dX11_compare_164 (by decide) ?_
              refine lv_iload E.1 E.2.1 dX11_compare_166 (lv_at hl 0 rfl) ?_
              refine lv_iadd E.1 E.2.1 dX11_compare_168 ?_
              refine m_ci 6 (by decide) ?_
              refine lv_iconst (v := 0) E.1 E.2.1 dX11_compare_169 (by decide) ?_
              refine t_vv E G hl (v_puts_op l D K ad zz130 oo133 (6 : Int32) (iv_mono (iv_lit (lo := 6) (hi := 6) 6 (by decide) (by decide)) (by decide) (by decide)) h137 (le399 oo133 (by have h1 := hs; have h2 := h143; omega)) (by decide)) 11 (rfl : ro 386 = 11) (by decide) rfl rfl 2 rfl mw_code_X11_puts mw_ini_11 mw_ml_11_163 mw_inst_X11_puts mw_sel_X11_puts hd_X11_puts ⟨Nat.le_trans (by decide) hfr, Nat.le_trans (by decide) hlo⟩ rfl rfl rfl (Nat.le_of_ble_eq_true rfl) dX11_compare_170 (fun zz147 H locs hp149 G => ?_)
              obtain ⟨oo150, kk151, h152, h153, h154⟩ := hp149
              have kk155 : KP1 z zz147 := KPf.tr kk140 (KPU.p1 kk151)
              have h156 : tI zz147 386 1 = v52 := KPf.i kk151 11 (rfl : ro 386 = 11) (by decide) h141
              have h157 := Scx.tr h142 (scx_p h142.1 kk151 rfl rfl)
              have h158 : SLk z + 0 ≤ SLk zz147 := by have h1 := h143; have h2 := h153; omega
              have h159 : Gd 1 0 z zz147 := Gd.tr h146 kk140 h154 (by decide) (by decide)
              refine lv_iconst (v := 1) E.1 E.2.1 dX11_compare_173 (by decide) ?_
              exact RET G ⟨oo150, kk155, (iv_mono (iv_lit (lo := 1) (hi := 1) 1 (by decide) (by decide)) (by decide) (by decide)), h157, h152, (by have h := h158; omega), (fun _ => Gd.wk h159 (by decide) (by decide))⟩ (by decide) dX11_compare_174
            · skip
              have b160 : iv 0 0 r131 := iv_eq c144 (iv_lit (lo := 0) (hi := 0) 0 (by decide) (by decide))
              refine lv_iconst (v := 0) E.1 E.2.1 dX11_compare_161 (by decide) ?_
              exact RET G ⟨oo133, kk140, (iv_mono (iv_lit (lo := 0) (hi := 0) 0 (by decide) (by decide)) (by decide) (by decide)), h142, h137, (by have h := h143; omega), (fun h => absurd rfl h)⟩ (by decide) dX11_compare_162
          · skip
            have b161 : iv 0 0 r113 := iv_eq c128 (iv_lit (lo := 0) (hi := 0) 0 (by decide) (by decide))
            refine lv_iconst (v := 0) E.1 E.2.1 dX11_compare_113 (by decide) ?_
            exact RET G ⟨oo115, kk120, (iv_mono (iv_lit (lo := 0) (hi := 0) 0 (by decide) (by decide)) (by decide) (by decide)), h123, h118, (by have h := h126; omega), (fun h => absurd rfl h)⟩ (by decide) dX11_compare_114
        · skip
          have b162 : iv 61 61 v108 := iv_eq c111 (iv_lit (lo := 61) (hi := 61) 61 (by decide) (by decide))
          refine lv_iconst (v := 1) E.1 E.2.1 dX11_compare_85 (by decide) ?_
          refine lv_goto (tgt := 90) E.1 E.2.1 dX11_compare_86 (by decide) ?_
          refine lv_istore_n (lv' := [(3, .int 1), (2, .int v33), (1, .int r18), (0, .ref (ad 386))]) E.1 E.2.1 dX11_compare_90 rfl hl (by decide) rfl (fun ls hl => ?_)
          refine lv_iload_n E.1 E.2.1 dX11_compare_91 rfl (lv_at hl 0 rfl) ?_
          refine lv_if_eq (tgt := 105) E.1 E.2.1 dX11_compare_92 (by decide) (fun h => absurd h (by decide)) (fun _ => ?_)
          refine lv_aload_n E.1 E.2.1 dX11_compare_95 rfl (lv_at hl 3 rfl) ?_
          refine lv_dup E.1 E.2.1 dX11_compare_96 rfl ?_
          refine t_get E G 11 8 (rfl : ro 386 = 11) (C := RX11) (T := TX11) (N := 37) rfl (by decide) (by decide) (by decide) mw_fl_11_93 (fvl_i rfl) dX11_compare_97 ?_
          refine m_ci v40 h51 ?_
          refine lv_iconst (v := 1) E.1 E.2.1 dX11_compare_100 (by decide) ?_
          refine lv_iadd E.1 E.2.1 dX11_compare_101 ?_
          refine lv_topi (fun v163 e164 => ?_)
          have b165 : iv 2 400 v163 := by rw [e164]; exact iv_add b105 (iv_lit (lo := 1) (hi := 1) 1 (by decide) (by decide)) (by decide) (by decide) (by decide) (by decide)
          have l166 : v163.toInt = 2 + 1 * v33.toInt := (show v163.toInt = v40.toInt + 1 by rw [e164]; exact ti_addc 1 (by decide) b105 (by decide) (by decide)).trans (by omega)
          refine t_puti E G 11 8 (rfl : ro 386 = 11) (C := RX11) (T := TX11) (N := 37) rfl (by decide) (by decide) (by decide) rfl rfl mw_fl_11_93 rfl dX11_compare_102 (fun H locs G => ?_)
          obtain ⟨zz171, G, oo172, kk173, h174, h175, h167, h168, h169, h170⟩ : ∃ u : TS, mG D A s H locs (wd K ad u) ∧ Ok u ∧ KP1 z u ∧ tI u 386 1 = v52 ∧ tI u 386 8 = v163 ∧ (Scx z u) ∧ (PIx u) ∧ (SLk z + 2 ≤ SLk u) ∧ (Gd 1 0 z u) := ⟨_, G, ok_i oo49 11 (rfl : ro 386 = 11) (iv_mono b165 (by decide) (by decide)) (by decide), KPf.tr kk50 (KPf_i 11 (rfl : ro 386 = 11) (by decide)), (sI_k e53.symm (by decide)), sI_self, (Scx.tr h44 (up_ls h51.symm h107 (l166.trans (by omega))).1), (pi_q h45 (Same.i (by decide)) (up_ls h51.symm h107 (l166.trans (by omega))).1.1 rfl rfl), (sl_q 1 h46 (Same.i (by decide)) (up_ls h51.symm h107 (l166.trans (by omega))).2 (by decide)), (Gd.sm h47 (Same.i (by decide)))⟩
          refine lv_aload_n E.1 E.2.1 dX11_compare_105 rfl (lv_at hl 3 rfl) ?_
          refine lv_iload_n E.1 E.2.1 dX11_compare_106 rfl (lv_at hl 1 rfl) ?_
          refine t_vi E G hl (v_makes l D K ad zz171 oo172 v33 h168) 11 (rfl : ro 386 = 11) (by decide) rfl rfl 1 rfl mw_code_X11_makes mw_ini_11 mw_ml_11_171 mw_inst_X11_makes mw_sel_X11_makes hd_X11_makes ⟨Nat.le_trans (by decide) hfr, Nat.le_trans (by decide) hlo⟩ rfl rfl rfl (Nat.le_of_ble_eq_true rfl) dX11_compare_107 (fun r177 zz176 H locs hp178 G => ?_)
          obtain ⟨oo179, kk180, b181, h182, h183⟩ := hp178
          have kk184 : KP1 z zz176 := KPf.tr kk173 (KMk.p1 kk180)
          have h185 : tI zz176 386 1 = v52 := KF.i kk180 11 (rfl : ro 386 = 11) (by decide) h174
          have h186 : tI zz176 386 8 = v163 := KF.i kk180 11 (rfl : ro 386 = 11) (by decide) h175
          have h187 := Scx.tr h167 (Scx.k h167.1 kk180 rfl rfl)
          have sm188 := Same.of kk180 rfl rfl rfl
          have h189 : SLk z + 2 ≤ SLk zz176 := sl_q 0 h169 sm188 (by rw [kk180.1 386 8 rfl]; omega) (by decide)
          have h190 := Gd.sm h170 sm188
          refine lv_if_ne (tgt := 115) E.1 E.2.1 dX11_compare_110 (by decide) (fun c191 => ?_) (fun c191 => ?_)
          · skip
            have b192 : iv 1 1 r177 := ne_lo c191 b181 (by decide) (by decide)
            refine lv_iload_n E.1 E.2.1 dX11_compare_115 rfl (lv_at hl 2 rfl) ?_
            refine lv_bipush (v := 60) E.1 E.2.1 dX11_compare_116 (by decide) ?_
            refine lv_icmp_ne (tgt := 133) E.1 E.2.1 dX11_compare_118 (by decide) (fun h => absurd c36 h) (fun _ => ?_)
            refine lv_iload_n E.1 E.2.1 dX11_compare_121 rfl (lv_at hl 0 rfl) ?_
            refine lv_if_eq (tgt := 129) E.1 E.2.1 dX11_compare_122 (by decide) (fun h => absurd h (by decide)) (fun _ => ?_)
            refine lv_iconst (v := 1) E.1 E.2.1 dX11_compare_125 (by decide) ?_
            refine lv_goto (tgt := 152) E.1 E.2.1 dX11_compare_126 (by decide) ?_
            refine lv_istore (lv' := [(4, .int 1), (3, .int 1), (2, .int v33), (1, .int r18), (0, .ref (ad 386))]) E.1 E.2.1 dX11_compare_152 hl (by decide) rfl (fun ls hl => ?_)
            refine lv_aload_n E.1 E.2.1 dX11_compare_154 rfl (lv_at hl 4 rfl) ?_
            refine t_vi E G hl (v_sum l D K ad zz176 oo179 h182 (by have h1 := hs; have h2 := h189; omega)) 11 (rfl : ro 386 = 11) (by decide) rfl rfl 0 rfl mw_code_X11_sum mw_ini_11 mw_ml_11_184 mw_inst_X11_sum mw_sel_X11_sum hd_X11_sum ⟨Nat.le_trans (by decide) hfr, Nat.le_trans (by decide) hlo⟩ rfl rfl rfl (Nat.le_of_ble_eq_true rfl) dX11_compare_155 (fun r194 zz193 H locs hp195 G => ?_)
            obtain ⟨oo196, kk197, b198, h199, h200, h201, h202⟩ := hp195
            have kk203 : KP1 z zz193 := KPf.tr kk184 kk197
            have h204 : tI zz193 386 1 = v52 := KPf.i kk197 11 (rfl : ro 386 = 11) (by decide) h185
            have h205 := Scx.tr h187 h199
            have h206 : SLk z + 2 ≤ SLk zz193 := by have h1 := h189; have h2 := h201; omega
            refine lv_if_ne (tgt := 163) E.1 E.2.1 dX11_compare_158 (by decide) (fun c207 => ?_) (fun c207 => ?_)
            · skip
              have b208 : iv 1 1 r194 := ne_lo c207 b198 (by decide) (by decide)
              have h209 : Gd 2 0 z zz193 := Gd.tr h190 kk184 (h202 c207) (by decide) (by decide)
              refine lv_aload_n E.1 E.2.1 dX11_compare_163 rfl (lv_at hl 4 rfl) ?_
              refine lv_bipush (v := 6) E.1 E.2.1 dX11_compare_164 (by decide) ?_
              refine lv_iload E.1 E.2.1 dX11_compare_166 (lv_at hl 0 rfl) ?_
              refine lv_iadd E.1 E.2.1 dX11_compare_168 ?_
              refine m_ci 7 (by decide) ?_
              refine lv_iconst (v := 0) E.1 E.2.1 dX11_compare_169 (by decide) ?_
              refine t_vv E G hl (v_puts_op l D K ad zz193 oo196 (7 : Int32) (iv_mono (iv_lit (lo := 7) (hi := 7) 7 (by decide) (by decide)) (by decide) (by decide)) h200 (le399 oo196 (by have h1 := hs; have h2 := h206; omega)) (by decide)) 11 (rfl : ro 386 = 11) (by decide) rfl rfl 2 rfl mw_code_X11_puts mw_ini_11 mw_ml_11_163 mw_inst_X11_puts mw_sel_X11_puts hd_X11_puts ⟨Nat.le_trans (by decide) hfr, Nat.le_trans (by decide) hlo⟩ rfl rfl rfl (Nat.le_of_ble_eq_true rfl) dX11_compare_170 (fun zz210 H locs hp212 G => ?_)
              obtain ⟨oo213, kk214, h215, h216, h217⟩ := hp212
              have kk218 : KP1 z zz210 := KPf.tr kk203 (KPU.p1 kk214)
              have h219 : tI zz210 386 1 = v52 := KPf.i kk214 11 (rfl : ro 386 = 11) (by decide) h204
              have h220 := Scx.tr h205 (scx_p h205.1 kk214 rfl rfl)
              have h221 : SLk z + 1 ≤ SLk zz210 := by have h1 := h206; have h2 := h216; omega
              have h222 : Gd 1 0 z zz210 := Gd.tr h209 kk203 h217 (by decide) (by decide)
              refine lv_iconst (v := 1) E.1 E.2.1 dX11_compare_173 (by decide) ?_
              exact RET G ⟨oo213, kk218, (iv_mono (iv_lit (lo := 1) (hi := 1) 1 (by decide) (by decide)) (by decide) (by decide)), h220, h215, (by have h := h221; omega), (fun _ => Gd.wk h222 (by decide) (by decide))⟩ (by decide) dX11_compare_174
            · skip
              have b223 : iv 0 0 r194 := iv_eq c207 (iv_lit (lo := 0) (hi := 0) 0 (by decide) (by decide))
              refine lv_iconst (v := 0) E.1 E.2.1 dX11_compare_161 (by decide) ?_
              exact RET G ⟨oo196, kk203, (iv_mono (iv_lit (lo := 0) (hi := 0) 0 (by decide) (by decide)) (by decide) (by decide)), h205, h200, (by have h := h206; omega), (fun h => absurd rfl h)⟩ (by decide) dX11_compare_162
          · skip
            have b224 : iv 0 0 r177 := iv_eq c191 (iv_lit (lo := 0) (hi := 0) 0 (by decide) (by decide))
            refine lv_iconst (v := 0) E.1 E.2.1 dX11_compare_113 (by decide) ?_
            exact RET G ⟨oo179, kk184, (iv_mono (iv_lit (lo := 0) (hi := 0) 0 (by decide) (by decide)) (by decide) (by decide)), h187, h182, (by have h := h189; omega), (fun h => absurd rfl h)⟩ (by decide) dX11_compare_114
    · skip
      refine lv_iload_n E.1 E.2.1 dX11_compare_25 rfl (lv_at hl 1 rfl) ?_
      refine lv_bipush (v := 61) E.1 E.2.1 dX11_compare_26 (by decide) ?_
      refine lv_icmp_eq (tgt := 44) E.1 E.2.1 dX11_compare_28 (by decide) (fun c225 => ?_) (fun c225 => ?_)
      · skip
        have b226 : iv 61 61 r18 := iv_eq c225 (iv_lit (lo := 61) (hi := 61) 61 (by decide) (by decide))
        have h227 : LSx zz17 := h26 (Int.le_trans (by decide) b226.1)
        have b228 : iv 0 399 v33 := ⟨b35.1, (LSx.iv oo20 h227 e34.symm.symm).2⟩
        refine lv_aload_n E.1 E.2.1 dX11_compare_44 rfl (lv_at hl 2 rfl) ?_
        refine lv_dup E.1 E.2.1 dX11_compare_45 rfl ?_
        refine t_get E G 11 8 (rfl : ro 386 = 11) (C := RX11) (T := TX11) (N := 37) rfl (by decide) (by decide) (by decide) mw_fl_11_93 (fvl_i rfl) dX11_compare_46 ?_
        refine m_ci v33 e34.symm ?_
        refine lv_iconst (v := 1) E.1 E.2.1 dX11_compare_49 (by decide) ?_
        refine lv_iadd E.1 E.2.1 dX11_compare_50 ?_
        refine lv_topi (fun v229 e230 => ?_)
        have b231 : iv 1 400 v229 := by rw [e230]; exact iv_add b228 (iv_lit (lo := 1) (hi := 1) 1 (by decide) (by decide)) (by decide) (by decide) (by decide) (by decide)
        have l232 : v229.toInt = 1 + 1 * v33.toInt := (show v229.toInt = v33.toInt + 1 by rw [e230]; exact ti_addc 1 (by decide) b228 (by decide) (by decide)).trans (by omega)
        refine t_puti E G 11 8 (rfl : ro 386 = 11) (C := RX11) (T := TX11) (N := 37) rfl (by decide) (by decide) (by decide) rfl rfl mw_fl_11_93 rfl dX11_compare_51 (fun H locs G => ?_)
        obtain ⟨zz237, G, oo238, kk239, h240, h233, h234, h235, h236⟩ : ∃ u : TS, mG D A s H locs (wd K ad u) ∧ Ok u ∧ KP1 z u ∧ tI u 386 8 = v229 ∧ (Scx z u) ∧ (PIx u) ∧ (SLk z + 1 ≤ SLk u) ∧ (Gd 1 0 z u) := ⟨_, G, ok_i oo20 11 (rfl : ro 386 = 11) (iv_mono b231 (by decide) (by decide)) (by decide), KPf.tr kk27 (KPf_i 11 (rfl : ro 386 = 11) (by decide)), sI_self, (Scx.tr h28 (up_ls e34.symm.symm h227 (l232.trans (by omega))).1), (pi_q h30 (Same.i (by decide)) (up_ls e34.symm.symm h227 (l232.trans (by omega))).1.1 rfl rfl), (sl_q 1 h31 (Same.i (by decide)) (up_ls e34.symm.symm h227 (l232.trans (by omega))).2 (by decide)), (Gd.sm h32 (Same.i (by decide)))⟩
        refine lv_iload_n E.1 E.2.1 dX11_compare_54 rfl (lv_at hl 1 rfl) ?_
        refine lv_bipush (v := 61) E.1 E.2.1 dX11_compare_55 (by decide) ?_
        refine lv_icmp_eq (tgt := 89) E.1 E.2.1 dX11_compare_57 (by decide) (fun _ => ?_) (fun h => absurd c225 h)
        refine lv_iconst (v := 0) E.1 E.2.1 dX11_compare_89 (by decide) ?_
        refine lv_istore_n (lv' := [(3, .int 0), (2, .int v33), (1, .int r18), (0, .ref (ad 386))]) E.1 E.2.1 dX11_compare_90 rfl hl (by decide) rfl (fun ls hl => ?_)
        refine lv_iload_n E.1 E.2.1 dX11_compare_91 rfl (lv_at hl 0 rfl) ?_
        refine lv_if_eq (tgt := 105) E.1 E.2.1 dX11_compare_92 (by decide) (fun _ => ?_) (fun h => absurd (by decide) h)
        refine lv_aload_n E.1 E.2.1 dX11_compare_105 rfl (lv_at hl 3 rfl) ?_
        refine lv_iload_n E.1 E.2.1 dX11_compare_106 rfl (lv_at hl 1 rfl) ?_
        refine t_vi E G hl (v_makes l D K ad zz237 oo238 v33 h234) 11 (rfl : ro 386 = 11) (by decide) rfl rfl 1 rfl mw_code_X11_makes mw_ini_11 mw_ml_11_171 mw_inst_X11_makes mw_sel_X11_makes hd_X11_makes ⟨Nat.le_trans (by decide) hfr, Nat.le_trans (by decide) hlo⟩ rfl rfl rfl (Nat.le_of_ble_eq_true rfl) dX11_compare_107 (fun r242 zz241 H locs hp243 G => ?_)
        obtain ⟨oo244, kk245, b246, h247, h248⟩ := hp243
        have kk249 : KP1 z zz241 := KPf.tr kk239 (KMk.p1 kk245)
        have h250 : tI zz241 386 8 = v229 := KF.i kk245 11 (rfl : ro 386 = 11) (by decide) h240
        have h251 := Scx.tr h233 (Scx.k h233.1 kk245 rfl rfl)
        have sm252 := Same.of kk245 rfl rfl rfl
        have h253 : SLk z + 1 ≤ SLk zz241 := sl_q 0 h235 sm252 (by rw [kk245.1 386 8 rfl]; omega) (by decide)
        have h254 := Gd.sm h236 sm252
        refine lv_if_ne (tgt := 115) E.1 E.2.1 dX11_compare_110 (by decide) (fun c255 => ?_) (fun c255 => ?_)
        · skip
          have b256 : iv 1 1 r242 := ne_lo c255 b246 (by decide) (by decide)
          refine lv_iload_n E.1 E.2.1 dX11_compare_115 rfl (lv_at hl 2 rfl) ?_
          refine lv_bipush (v := 60) E.1 E.2.1 dX11_compare_116 (by decide) ?_
          refine lv_icmp_ne (tgt := 133) E.1 E.2.1 dX11_compare_118 (by decide) (fun _ => ?_) (fun h => absurd h (ivne2 b226 (iv_lit (lo := 60) (hi := 60) 60 (by decide) (by decide)) (by decide)))
          refine lv_iload_n E.1 E.2.1 dX11_compare_133 rfl (lv_at hl 2 rfl) ?_
          refine lv_bipush (v := 61) E.1 E.2.1 dX11_compare_134 (by decide) ?_
          refine lv_icmp_ne (tgt := 143) E.1 E.2.1 dX11_compare_136 (by decide) (fun h => absurd c225 h) (fun _ => ?_)
          refine lv_iconst (v := 2) E.1 E.2.1 dX11_compare_139 (by decide) ?_
          refine lv_goto (tgt := 152) E.1 E.2.1 dX11_compare_140 (by decide) ?_
          refine lv_istore (lv' := [(4, .int 2), (3, .int 0), (2, .int v33), (1, .int r18), (0, .ref (ad 386))]) E.1 E.2.1 dX11_compare_152 hl (by decide) rfl (fun ls hl => ?_)
          refine lv_aload_n E.1 E.2.1 dX11_compare_154 rfl (lv_at hl 4 rfl) ?_
          refine t_vi E G hl (v_sum l D K ad zz241 oo244 h247 (by have h1 := hs; have h2 := h253; omega)) 11 (rfl : ro 386 = 11) (by decide) rfl rfl 0 rfl mw_code_X11_sum mw_ini_11 mw_ml_11_184 mw_inst_X11_sum mw_sel_X11_sum hd_X11_sum ⟨Nat.le_trans (by decide) hfr, Nat.le_trans (by decide) hlo⟩ rfl rfl rfl (Nat.le_of_ble_eq_true rfl) dX11_compare_155 (fun r258 zz257 H locs hp259 G => ?_)
          obtain ⟨oo260, kk261, b262, h263, h264, h265, h266⟩ := hp259
          have kk267 : KP1 z zz257 := KPf.tr kk249 kk261
          have h268 := Scx.tr h251 h263
          have h269 : SLk z + 1 ≤ SLk zz257 := by have h1 := h253; have h2 := h265; omega
          refine lv_if_ne (tgt := 163) E.1 E.2.1 dX11_compare_158 (by decide) (fun c270 => ?_) (fun c270 => ?_)
          · skip
            have b271 : iv 1 1 r258 := ne_lo c270 b262 (by decide) (by decide)
            have h272 : Gd 2 0 z zz257 := Gd.tr h254 kk249 (h266 c270) (by decide) (by decide)
            refine lv_aload_n E.1 E.2.1 dX11_compare_163 rfl (lv_at hl 4 rfl) ?_
            refine lv_bipush (v := 6) E.1 E.2.1 dX11_compare_164 (by decide) ?_
            refine lv_iload E.1 E.2.1 dX11_compare_166 (lv_at hl 0 rfl) ?_
            refine lv_iadd E.1 E.2.1 dX11_compare_168 ?_
            refine m_ci 8 (by decide) ?_
            refine lv_iconst (v := 0) E.1 E.2.1 dX11_compare_169 (by decide) ?_
            refine t_vv E G hl (v_puts_op l D K ad zz257 oo260 (8 : Int32) (iv_mono (iv_lit (lo := 8) (hi := 8) 8 (by decide) (by decide)) (by decide) (by decide)) h264 (le399 oo260 (by have h1 := hs; have h2 := h269; omega)) (by decide)) 11 (rfl : ro 386 = 11) (by decide) rfl rfl 2 rfl mw_code_X11_puts mw_ini_11 mw_ml_11_163 mw_inst_X11_puts mw_sel_X11_puts hd_X11_puts ⟨Nat.le_trans (by decide) hfr, Nat.le_trans (by decide) hlo⟩ rfl rfl rfl (Nat.le_of_ble_eq_true rfl) dX11_compare_170 (fun zz273 H locs hp275 G => ?_)
            obtain ⟨oo276, kk277, h278, h279, h280⟩ := hp275
            have kk281 : KP1 z zz273 := KPf.tr kk267 (KPU.p1 kk277)
            have h282 := Scx.tr h268 (scx_p h268.1 kk277 rfl rfl)
            have h283 : SLk z + 0 ≤ SLk zz273 := by have h1 := h269; have h2 := h279; omega
            have h284 : Gd 1 0 z zz273 := Gd.tr h272 kk267 h280 (by decide) (by decide)
            refine lv_iconst (v := 1) E.1 E.2.1 dX11_compare_173 (by decide) ?_
            exact RET G ⟨oo276, kk281, (iv_mono (iv_lit (lo := 1) (hi := 1) 1 (by decide) (by decide)) (by decide) (by decide)), h282, h278, (by have h := h283; omega), (fun _ => Gd.wk h284 (by decide) (by decide))⟩ (by decide) dX11_compare_174
          · skip
            have b285 : iv 0 0 r258 := iv_eq c270 (iv_lit (lo := 0) (hi := 0) 0 (by decide) (by decide))
            refine lv_iconst (v := 0) E.1 E.2.1 dX11_compare_161 (by decide) ?_
            exact RET G ⟨oo260, kk267, (iv_mono (iv_lit (lo := 0) (hi := 0) 0 (by decide) (by decide)) (by decide) (by decide)), h268, h264, (by have h := h269; omega), (fun h => absurd rfl h)⟩ (by decide) dX11_compare_162
        · skip
          have b286 : iv 0 0 r242 := iv_eq c255 (iv_lit (lo := 0) (hi := 0) 0 (by decide) (by decide))
          refine lv_iconst (v := 0) E.1 E.2.1 dX11_compare_113 (by decide) ?_
          exact RET G ⟨oo244, kk249, (iv_mono (iv_lit (lo := 0) (hi := 0) 0 (by decide) (by decide)) (by decide) (by decide)), h251, h247, (by have h := h253; omega), (fun h => absurd rfl h)⟩ (by decide) dX11_compare_114
      · skip
        refine lv_iload_n E.1 E.2.1 dX11_compare_31 rfl (lv_at hl 1 rfl) ?_
        refine lv_bipush (v := 62) E.1 E.2.1 dX11_compare_32 (by decide) ?_
        refine lv_icmp_eq (tgt := 44) E.1 E.2.1 dX11_compare_34 (by decide) (fun c287 => ?_) (fun c287 => ?_)
        · skip
          have b288 : iv 62 62 r18 := iv_eq c287 (iv_lit (lo := 62) (hi := 62) 62 (by decide) (by decide))
          have h289 : LSx zz17 := h26 (Int.le_trans (by decide) b288.1)
          have b290 : iv 0 399 v33 := ⟨b35.1, (LSx.iv oo20 h289 e34.symm.symm).2⟩
          refine lv_aload_n E.1 E.2.1 dX11_compare_44 rfl (lv_at hl 2 rfl) ?_
          refine lv_dup E.1 E.2.1 dX11_compare_45 rfl ?_
          refine t_get E G 11 8 (rfl : ro 386 = 11) (C := RX11) (T := TX11) (N := 37) rfl (by decide) (by decide) (by decide) mw_fl_11_93 (fvl_i rfl) dX11_compare_46 ?_
          refine m_ci v33 e34.symm ?_
          refine lv_iconst (v := 1) E.1 E.2.1 dX11_compare_49 (by decide) ?_
          refine lv_iadd E.1 E.2.1 dX11_compare_50 ?_
          refine lv_topi (fun v291 e292 => ?_)
          have b293 : iv 1 400 v291 := by rw [e292]; exact iv_add b290 (iv_lit (lo := 1) (hi := 1) 1 (by decide) (by decide)) (by decide) (by decide) (by decide) (by decide)
          have l294 : v291.toInt = 1 + 1 * v33.toInt := (show v291.toInt = v33.toInt + 1 by rw [e292]; exact ti_addc 1 (by decide) b290 (by decide) (by decide)).trans (by omega)
          refine t_puti E G 11 8 (rfl : ro 386 = 11) (C := RX11) (T := TX11) (N := 37) rfl (by decide) (by decide) (by decide) rfl rfl mw_fl_11_93 rfl dX11_compare_51 (fun H locs G => ?_)
          obtain ⟨zz299, G, oo300, kk301, h302, h295, h296, h297, h298⟩ : ∃ u : TS, mG D A s H locs (wd K ad u) ∧ Ok u ∧ KP1 z u ∧ tI u 386 8 = v291 ∧ (Scx z u) ∧ (PIx u) ∧ (SLk z + 1 ≤ SLk u) ∧ (Gd 1 0 z u) := ⟨_, G, ok_i oo20 11 (rfl : ro 386 = 11) (iv_mono b293 (by decide) (by decide)) (by decide), KPf.tr kk27 (KPf_i 11 (rfl : ro 386 = 11) (by decide)), sI_self, (Scx.tr h28 (up_ls e34.symm.symm h289 (l294.trans (by omega))).1), (pi_q h30 (Same.i (by decide)) (up_ls e34.symm.symm h289 (l294.trans (by omega))).1.1 rfl rfl), (sl_q 1 h31 (Same.i (by decide)) (up_ls e34.symm.symm h289 (l294.trans (by omega))).2 (by decide)), (Gd.sm h32 (Same.i (by decide)))⟩
          refine lv_iload_n E.1 E.2.1 dX11_compare_54 rfl (lv_at hl 1 rfl) ?_
          refine lv_bipush (v := 61) E.1 E.2.1 dX11_compare_55 (by decide) ?_
          refine lv_icmp_eq (tgt := 89) E.1 E.2.1 dX11_compare_57 (by decide) (fun h => absurd h (ivne2 b288 (iv_lit (lo := 61) (hi := 61) 61 (by decide) (by decide)) (by decide))) (fun _ => ?_)
          refine lv_aload_n E.1 E.2.1 dX11_compare_60 rfl (lv_at hl 2 rfl) ?_
          refine t_get E G 11 8 (rfl : ro 386 = 11) (C := RX11) (T := TX11) (N := 37) rfl (by decide) (by decide) (by decide) mw_fl_11_93 (fvl_i rfl) dX11_compare_61 ?_
          refine m_ci v291 h302 ?_
          refine lv_aload_n E.1 E.2.1 dX11_compare_64 rfl (lv_at hl 2 rfl) ?_
          refine t_get E G 11 1 (rfl : ro 386 = 11) (C := RX11) (T := TX11) (N := 37) rfl (by decide) (by decide) (by decide) mw_fl_11_83 (fvl_i rfl) dX11_compare_65 ?_
          refine lv_topi (fun v303 e304 => ?_)
          have b305 : iv 0 400 v303 := by rw [e304]; exact oo300.i 11 1 (rfl : ro 386 = 11)
          refine lv_icmp_ge (tgt := 89) E.1 E.2.1 dX11_compare_68 (by decide) (fun c306 => ?_) (fun c306 => ?_)
          · skip
            refine lv_iconst (v := 0) E.1 E.2.1 dX11_compare_89 (by decide) ?_
            refine lv_istore_n (lv' := [(3, .int 0), (2, .int v33), (1, .int r18), (0, .ref (ad 386))]) E.1 E.2.1 dX11_compare_90 rfl hl (by decide) rfl (fun ls hl => ?_)
            refine lv_iload_n E.1 E.2.1 dX11_compare_91 rfl (lv_at hl 0 rfl) ?_
            refine lv_if_eq (tgt := 105) E.1 E.2.1 dX11_compare_92 (by decide) (fun _ => ?_) (fun h => absurd (by decide) h)
            refine lv_aload_n E.1 E.2.1 dX11_compare_105 rfl (lv_at hl 3 rfl) ?_
            refine lv_iload_n E.1 E.2.1 dX11_compare_106 rfl (lv_at hl 1 rfl) ?_
            refine t_vi E G hl (v_makes l D K ad zz299 oo300 v33 h296) 11 (rfl : ro 386 = 11) (by decide) rfl rfl 1 rfl mw_code_X11_makes mw_ini_11 mw_ml_11_171 mw_inst_X11_makes mw_sel_X11_makes hd_X11_makes ⟨Nat.le_trans (by decide) hfr, Nat.le_trans (by decide) hlo⟩ rfl rfl rfl (Nat.le_of_ble_eq_true rfl) dX11_compare_107 (fun r308 zz307 H locs hp309 G => ?_)
            obtain ⟨oo310, kk311, b312, h313, h314⟩ := hp309
            have kk315 : KP1 z zz307 := KPf.tr kk301 (KMk.p1 kk311)
            have h316 : tI zz307 386 8 = v291 := KF.i kk311 11 (rfl : ro 386 = 11) (by decide) h302
            have h317 : tI zz307 386 1 = v303 := KF.i kk311 11 (rfl : ro 386 = 11) (by decide) e304.symm
            have h318 := Scx.tr h295 (Scx.k h295.1 kk311 rfl rfl)
            have sm319 := Same.of kk311 rfl rfl rfl
            have h320 : SLk z + 1 ≤ SLk zz307 := sl_q 0 h297 sm319 (by rw [kk311.1 386 8 rfl]; omega) (by decide)
            have h321 := Gd.sm h298 sm319
            refine lv_if_ne (tgt := 115) E.1 E.2.1 dX11_compare_110 (by decide) (fun c322 => ?_) (fun c322 => ?_)
            · skip
              have b323 : iv 1 1 r308 := ne_lo c322 b312 (by decide) (by decide)
              refine lv_iload_n E.1 E.2.1 dX11_compare_115 rfl (lv_at hl 2 rfl) ?_
              refine lv_bipush (v := 60) E.1 E.2.1 dX11_compare_116 (by decide) ?_
              refine lv_icmp_ne (tgt := 133) E.1 E.2.1 dX11_compare_118 (by decide) (fun _ => ?_) (fun h => absurd h (ivne2 b288 (iv_lit (lo := 60) (hi := 60) 60 (by decide) (by decide)) (by decide)))
              refine lv_iload_n E.1 E.2.1 dX11_compare_133 rfl (lv_at hl 2 rfl) ?_
              refine lv_bipush (v := 61) E.1 E.2.1 dX11_compare_134 (by decide) ?_
              refine lv_icmp_ne (tgt := 143) E.1 E.2.1 dX11_compare_136 (by decide) (fun _ => ?_) (fun h => absurd h (ivne2 b288 (iv_lit (lo := 61) (hi := 61) 61 (by decide) (by decide)) (by decide)))
              refine lv_iload_n E.1 E.2.1 dX11_compare_143 rfl (lv_at hl 0 rfl) ?_
              refine lv_if_eq (tgt := 151) E.1 E.2.1 dX11_compare_144 (by decide) (fun _ => ?_) (fun h => absurd (by decide) h)
              refine lv_iconst (v := 4) E.1 E.2.1 dX11_compare_151 (by decide) ?_
              refine lv_istore (lv' := [(4, .int 4), (3, .int 0), (2, .int v33), (1, .int r18), (0, .ref (ad 386))]) E.1 E.2.1 dX11_compare_152 hl (by decide) rfl (fun ls hl => ?_)
              refine lv_aload_n E.1 E.2.1 dX11_compare_154 rfl (lv_at hl 4 rfl) ?_
              refine t_vi E G hl (v_sum l D K ad zz307 oo310 h313 (by have h1 := hs; have h2 := h320; omega)) 11 (rfl : ro 386 = 11) (by decide) rfl rfl 0 rfl mw_code_X11_sum mw_ini_11 mw_ml_11_184 mw_inst_X11_sum mw_sel_X11_sum hd_X11_sum ⟨Nat.le_trans (by decide) hfr, Nat.le_trans (by decide) hlo⟩ rfl rfl rfl (Nat.le_of_ble_eq_true rfl) dX11_compare_155 (fun r325 zz324 H locs hp326 G => ?_)
              obtain ⟨oo327, kk328, b329, h330, h331, h332, h333⟩ := hp326
              have kk334 : KP1 z zz324 := KPf.tr kk315 kk328
              have h335 : tI zz324 386 1 = v303 := KPf.i kk328 11 (rfl : ro 386 = 11) (by decide) h317
              have h336 := Scx.tr h318 h330
              have h337 : SLk z + 1 ≤ SLk zz324 := by have h1 := h320; have h2 := h332; omega
              refine lv_if_ne (tgt := 163) E.1 E.2.1 dX11_compare_158 (by decide) (fun c338 => ?_) (fun c338 => ?_)
              · skip
                have b339 : iv 1 1 r325 := ne_lo c338 b329 (by decide) (by decide)
                have h340 : Gd 2 0 z zz324 := Gd.tr h321 kk315 (h333 c338) (by decide) (by decide)
                refine lv_aload_n E.1 E.2.1 dX11_compare_163 rfl (lv_at hl 4 rfl) ?_
                refine lv_bipush (v := 6) E.1 E.2.1 dX11_compare_164 (by decide) ?_
                refine lv_iload E.1 E.2.1 dX11_compare_166 (lv_at hl 0 rfl) ?_
                refine lv_iadd E.1 E.2.1 dX11_compare_168 ?_
                refine m_ci 10 (by decide) ?_
                refine lv_iconst (v := 0) E.1 E.2.1 dX11_compare_169 (by decide) ?_
                refine t_vv E G hl (v_puts_op l D K ad zz324 oo327 (10 : Int32) (iv_mono (iv_lit (lo := 10) (hi := 10) 10 (by decide) (by decide)) (by decide) (by decide)) h331 (le399 oo327 (by have h1 := hs; have h2 := h337; omega)) (by decide)) 11 (rfl : ro 386 = 11) (by decide) rfl rfl 2 rfl mw_code_X11_puts mw_ini_11 mw_ml_11_163 mw_inst_X11_puts mw_sel_X11_puts hd_X11_puts ⟨Nat.le_trans (by decide) hfr, Nat.le_trans (by decide) hlo⟩ rfl rfl rfl (Nat.le_of_ble_eq_true rfl) dX11_compare_170 (fun zz341 H locs hp343 G => ?_)
                obtain ⟨oo344, kk345, h346, h347, h348⟩ := hp343
                have kk349 : KP1 z zz341 := KPf.tr kk334 (KPU.p1 kk345)
                have h350 : tI zz341 386 1 = v303 := KPf.i kk345 11 (rfl : ro 386 = 11) (by decide) h335
                have h351 := Scx.tr h336 (scx_p h336.1 kk345 rfl rfl)
                have h352 : SLk z + 0 ≤ SLk zz341 := by have h1 := h337; have h2 := h347; omega
                have h353 : Gd 1 0 z zz341 := Gd.tr h340 kk334 h348 (by decide) (by decide)
                refine lv_iconst (v := 1) E.1 E.2.1 dX11_compare_173 (by decide) ?_
                exact RET G ⟨oo344, kk349, (iv_mono (iv_lit (lo := 1) (hi := 1) 1 (by decide) (by decide)) (by decide) (by decide)), h351, h346, (by have h := h352; omega), (fun _ => Gd.wk h353 (by decide) (by decide))⟩ (by decide) dX11_compare_174
              · skip
                have b354 : iv 0 0 r325 := iv_eq c338 (iv_lit (lo := 0) (hi := 0) 0 (by decide) (by decide))
                refine lv_iconst (v := 0) E.1 E.2.1 dX11_compare_161 (by decide) ?_
                exact RET G ⟨oo327, kk334, (iv_mono (iv_lit (lo := 0) (hi := 0) 0 (by decide) (by decide)) (by decide) (by decide)), h336, h331, (by have h := h337; omega), (fun h => absurd rfl h)⟩ (by decide) dX11_compare_162
            · skip
              have b355 : iv 0 0 r308 := iv_eq c322 (iv_lit (lo := 0) (hi := 0) 0 (by decide) (by decide))
              refine lv_iconst (v := 0) E.1 E.2.1 dX11_compare_113 (by decide) ?_
              exact RET G ⟨oo310, kk315, (iv_mono (iv_lit (lo := 0) (hi := 0) 0 (by decide) (by decide)) (by decide) (by decide)), h318, h313, (by have h := h320; omega), (fun h => absurd rfl h)⟩ (by decide) dX11_compare_114
          · skip
            have b356 : iv 1 399 v291 := lt_l (Int32.not_le.mp c306) b293 b305 (by decide)
            have b357 : iv 2 400 v303 := lt_r (Int32.not_le.mp c306) b293 b305 (by decide)
            have h358 : LSx zz299 := ls_of h302.symm e304.symm.symm c306
            refine lv_aload_n E.1 E.2.1 dX11_compare_71 rfl (lv_at hl 2 rfl) ?_
            refine t_get E G 11 0 (rfl : ro 386 = 11) (C := RX11) (T := TX11) (N := 37) rfl (by decide) (by decide) (by decide) mw_fl_11_7 (v := .ref (ad 387)) (fvl_o (n := 1) rfl) dX11_compare_72 ?_
            refine lv_aload_n E.1 E.2.1 dX11_compare_75 rfl (lv_at hl 2 rfl) ?_
            refine t_get E G 11 8 (rfl : ro 386 = 11) (C := RX11) (T := TX11) (N := 37) rfl (by decide) (by decide) (by decide) mw_fl_11_93 (fvl_i rfl) dX11_compare_76 ?_
            refine m_ci v291 h302 ?_
            refine t_bald E G 45 (rfl : ro 387 = 45) (by decide) (by decide) rfl (n := 400) rfl (iv_vp b356 (by decide) (by decide)) dX11_compare_79 ?_
            refine lv_topi (fun v359 e360 => ?_)
            have b361 : iv (-128) 127 v359 := by rw [e360]; exact iv_mono (rd_u oo300 45 (rfl : ro 387 = 45) (by decide) _) (by decide) (by decide)
            refine lv_bipush (v := 61) E.1 E.2.1 dX11_compare_80 (by decide) ?_
            refine lv_icmp_ne (tgt := 89) E.1 E.2.1 dX11_compare_82 (by decide) (fun c362 => ?_) (fun c362 => ?_)
            · skip
              refine lv_iconst (v := 0) E.1 E.2.1 dX11_compare_89 (by decide) ?_
              refine lv_istore_n (lv' := [(3, .int 0), (2, .int v33), (1, .int r18), (0, .ref (ad 386))]) E.1 E.2.1 dX11_compare_90 rfl hl (by decide) rfl (fun ls hl => ?_)
              refine lv_iload_n E.1 E.2.1 dX11_compare_91 rfl (lv_at hl 0 rfl) ?_
              refine lv_if_eq (tgt := 105) E.1 E.2.1 dX11_compare_92 (by decide) (fun _ => ?_) (fun h => absurd (by decide) h)
              refine lv_aload_n E.1 E.2.1 dX11_compare_105 rfl (lv_at hl 3 rfl) ?_
              refine lv_iload_n E.1 E.2.1 dX11_compare_106 rfl (lv_at hl 1 rfl) ?_
              refine t_vi E G hl (v_makes l D K ad zz299 oo300 v33 h296) 11 (rfl : ro 386 = 11) (by decide) rfl rfl 1 rfl mw_code_X11_makes mw_ini_11 mw_ml_11_171 mw_inst_X11_makes mw_sel_X11_makes hd_X11_makes ⟨Nat.le_trans (by decide) hfr, Nat.le_trans (by decide) hlo⟩ rfl rfl rfl (Nat.le_of_ble_eq_true rfl) dX11_compare_107 (fun r364 zz363 H locs hp365 G => ?_)
              obtain ⟨oo366, kk367, b368, h369, h370⟩ := hp365
              have kk371 : KP1 z zz363 := KPf.tr kk301 (KMk.p1 kk367)
              have h372 : tI zz363 386 8 = v291 := KF.i kk367 11 (rfl : ro 386 = 11) (by decide) h302
              have h373 : tI zz363 386 1 = v303 := KF.i kk367 11 (rfl : ro 386 = 11) (by decide) e304.symm
              have h374 := Scx.tr h295 (Scx.k h295.1 kk367 rfl rfl)
              have h375 : LSx zz363 := LSx.k h358 kk367 (kk367.1 386 8 rfl) rfl
              have sm376 := Same.of kk367 rfl rfl rfl
              have h377 : SLk z + 1 ≤ SLk zz363 := sl_q 0 h297 sm376 (by rw [kk367.1 386 8 rfl]; omega) (by decide)
              have h378 := Gd.sm h298 sm376
              refine lv_if_ne (tgt := 115) E.1 E.2.1 dX11_compare_110 (by decide) (fun c379 => ?_) (fun c379 => ?_)
              · skip
                have b380 : iv 1 1 r364 := ne_lo c379 b368 (by decide) (by decide)
                refine lv_iload_n E.1 E.2.1 dX11_compare_115 rfl (lv_at hl 2 rfl) ?_
                refine lv_bipush (v := 60) E.1 E.2.1 dX11_compare_116 (by decide) ?_
                refine lv_icmp_ne (tgt := 133) E.1 E.2.1 dX11_compare_118 (by decide) (fun _ => ?_) (fun h => absurd h (ivne2 b288 (iv_lit (lo := 60) (hi := 60) 60 (by decide) (by decide)) (by decide)))
                refine lv_iload_n E.1 E.2.1 dX11_compare_133 rfl (lv_at hl 2 rfl) ?_
                refine lv_bipush (v := 61) E.1 E.2.1 dX11_compare_134 (by decide) ?_
                refine lv_icmp_ne (tgt := 143) E.1 E.2.1 dX11_compare_136 (by decide) (fun _ => ?_) (fun h => absurd h (ivne2 b288 (iv_lit (lo := 61) (hi := 61) 61 (by decide) (by decide)) (by decide)))
                refine lv_iload_n E.1 E.2.1 dX11_compare_143 rfl (lv_at hl 0 rfl) ?_
                refine lv_if_eq (tgt := 151) E.1 E.2.1 dX11_compare_144 (by decide) (fun _ => ?_) (fun h => absurd (by decide) h)
                refine lv_iconst (v := 4) E.1 E.2.1 dX11_compare_151 (by decide) ?_
                refine lv_istore (lv' := [(4, .int 4), (3, .int 0), (2, .int v33), (1, .int r18), (0, .ref (ad 386))]) E.1 E.2.1 dX11_compare_152 hl (by decide) rfl (fun ls hl => ?_)
                refine lv_aload_n E.1 E.2.1 dX11_compare_154 rfl (lv_at hl 4 rfl) ?_
                refine t_vi E G hl (v_sum l D K ad zz363 oo366 h369 (by have h1 := hs; have h2 := h377; omega)) 11 (rfl : ro 386 = 11) (by decide) rfl rfl 0 rfl mw_code_X11_sum mw_ini_11 mw_ml_11_184 mw_inst_X11_sum mw_sel_X11_sum hd_X11_sum ⟨Nat.le_trans (by decide) hfr, Nat.le_trans (by decide) hlo⟩ rfl rfl rfl (Nat.le_of_ble_eq_true rfl) dX11_compare_155 (fun r382 zz381 H locs hp383 G => ?_)
                obtain ⟨oo384, kk385, b386, h387, h388, h389, h390⟩ := hp383
                have kk391 : KP1 z zz381 := KPf.tr kk371 kk385
                have h392 : tI zz381 386 1 = v303 := KPf.i kk385 11 (rfl : ro 386 = 11) (by decide) h373
                have h393 := Scx.tr h374 h387
                have h394 : SLk z + 1 ≤ SLk zz381 := by have h1 := h377; have h2 := h389; omega
                refine lv_if_ne (tgt := 163) E.1 E.2.1 dX11_compare_158 (by decide) (fun c395 => ?_) (fun c395 => ?_)
                · skip
                  have b396 : iv 1 1 r382 := ne_lo c395 b386 (by decide) (by decide)
                  have h397 : Gd 2 0 z zz381 := Gd.tr h378 kk371 (h390 c395) (by decide) (by decide)
                  refine lv_aload_n E.1 E.2.1 dX11_compare_163 rfl (lv_at hl 4 rfl) ?_
                  refine lv_bipush (v := 6) E.1 E.2.1 dX11_compare_164 (by decide) ?_
                  refine lv_iload E.1 E.2.1 dX11_compare_166 (lv_at hl 0 rfl) ?_
                  refine lv_iadd E.1 E.2.1 dX11_compare_168 ?_
                  refine m_ci 10 (by decide) ?_
                  refine lv_iconst (v := 0) E.1 E.2.1 dX11_compare_169 (by decide) ?_
                  refine t_vv E G hl (v_puts_op l D K ad zz381 oo384 (10 : Int32) (iv_mono (iv_lit (lo := 10) (hi := 10) 10 (by decide) (by decide)) (by decide) (by decide)) h388 (le399 oo384 (by have h1 := hs; have h2 := h394; omega)) (by decide)) 11 (rfl : ro 386 = 11) (by decide) rfl rfl 2 rfl mw_code_X11_puts mw_ini_11 mw_ml_11_163 mw_inst_X11_puts mw_sel_X11_puts hd_X11_puts ⟨Nat.le_trans (by decide) hfr, Nat.le_trans (by decide) hlo⟩ rfl rfl rfl (Nat.le_of_ble_eq_true rfl) dX11_compare_170 (fun zz398 H locs hp400 G => ?_)
                  obtain ⟨oo401, kk402, h403, h404, h405⟩ := hp400
                  have kk406 : KP1 z zz398 := KPf.tr kk391 (KPU.p1 kk402)
                  have h407 : tI zz398 386 1 = v303 := KPf.i kk402 11 (rfl : ro 386 = 11) (by decide) h392
                  have h408 := Scx.tr h393 (scx_p h393.1 kk402 rfl rfl)
                  have h409 : SLk z + 0 ≤ SLk zz398 := by have h1 := h394; have h2 := h404; omega
                  have h410 : Gd 1 0 z zz398 := Gd.tr h397 kk391 h405 (by decide) (by decide)
                  refine lv_iconst (v := 1) E.1 E.2.1 dX11_compare_173 (by decide) ?_
                  exact RET G ⟨oo401, kk406, (iv_mono (iv_lit (lo := 1) (hi := 1) 1 (by decide) (by decide)) (by decide) (by decide)), h408, h403, (by have h := h409; omega), (fun _ => Gd.wk h410 (by decide) (by decide))⟩ (by decide) dX11_compare_174
                · skip
                  have b411 : iv 0 0 r382 := iv_eq c395 (iv_lit (lo := 0) (hi := 0) 0 (by decide) (by decide))
                  refine lv_iconst (v := 0) E.1 E.2.1 dX11_compare_161 (by decide) ?_
                  exact RET G ⟨oo384, kk391, (iv_mono (iv_lit (lo := 0) (hi := 0) 0 (by decide) (by decide)) (by decide) (by decide)), h393, h388, (by have h := h394; omega), (fun h => absurd rfl h)⟩ (by decide) dX11_compare_162
              · skip
                have b412 : iv 0 0 r364 := iv_eq c379 (iv_lit (lo := 0) (hi := 0) 0 (by decide) (by decide))
                refine lv_iconst (v := 0) E.1 E.2.1 dX11_compare_113 (by decide) ?_
                exact RET G ⟨oo366, kk371, (iv_mono (iv_lit (lo := 0) (hi := 0) 0 (by decide) (by decide)) (by decide) (by decide)), h374, h369, (by have h := h377; omega), (fun h => absurd rfl h)⟩ (by decide) dX11_compare_114
            · skip
              have b413 : iv 61 61 v359 := iv_eq c362 (iv_lit (lo := 61) (hi := 61) 61 (by decide) (by decide))
              refine lv_iconst (v := 1) E.1 E.2.1 dX11_compare_85 (by decide) ?_
              refine lv_goto (tgt := 90) E.1 E.2.1 dX11_compare_86 (by decide) ?_
              refine lv_istore_n (lv' := [(3, .int 1), (2, .int v33), (1, .int r18), (0, .ref (ad 386))]) E.1 E.2.1 dX11_compare_90 rfl hl (by decide) rfl (fun ls hl => ?_)
              refine lv_iload_n E.1 E.2.1 dX11_compare_91 rfl (lv_at hl 0 rfl) ?_
              refine lv_if_eq (tgt := 105) E.1 E.2.1 dX11_compare_92 (by decide) (fun h => absurd h (by decide)) (fun _ => ?_)
              refine lv_aload_n E.1 E.2.1 dX11_compare_95 rfl (lv_at hl 3 rfl) ?_
              refine lv_dup E.1 E.2.1 dX11_compare_96 rfl ?_
              refine t_get E G 11 8 (rfl : ro 386 = 11) (C := RX11) (T := TX11) (N := 37) rfl (by decide) (by decide) (by decide) mw_fl_11_93 (fvl_i rfl) dX11_compare_97 ?_
              refine m_ci v291 h302 ?_
              refine lv_iconst (v := 1) E.1 E.2.1 dX11_compare_100 (by decide) ?_
              refine lv_iadd E.1 E.2.1 dX11_compare_101 ?_
              refine lv_topi (fun v414 e415 => ?_)
              have b416 : iv 2 400 v414 := by rw [e415]; exact iv_add b356 (iv_lit (lo := 1) (hi := 1) 1 (by decide) (by decide)) (by decide) (by decide) (by decide) (by decide)
              have l417 : v414.toInt = 2 + 1 * v33.toInt := (show v414.toInt = v291.toInt + 1 by rw [e415]; exact ti_addc 1 (by decide) b356 (by decide) (by decide)).trans (by omega)
              refine t_puti E G 11 8 (rfl : ro 386 = 11) (C := RX11) (T := TX11) (N := 37) rfl (by decide) (by decide) (by decide) rfl rfl mw_fl_11_93 rfl dX11_compare_102 (fun H locs G => ?_)
              obtain ⟨zz422, G, oo423, kk424, h425, h426, h418, h419, h420, h421⟩ : ∃ u : TS, mG D A s H locs (wd K ad u) ∧ Ok u ∧ KP1 z u ∧ tI u 386 1 = v303 ∧ tI u 386 8 = v414 ∧ (Scx z u) ∧ (PIx u) ∧ (SLk z + 2 ≤ SLk u) ∧ (Gd 1 0 z u) := ⟨_, G, ok_i oo300 11 (rfl : ro 386 = 11) (iv_mono b416 (by decide) (by decide)) (by decide), KPf.tr kk301 (KPf_i 11 (rfl : ro 386 = 11) (by decide)), (sI_k e304.symm (by decide)), sI_self, (Scx.tr h295 (up_ls h302.symm h358 (l417.trans (by omega))).1), (pi_q h296 (Same.i (by decide)) (up_ls h302.symm h358 (l417.trans (by omega))).1.1 rfl rfl), (sl_q 1 h297 (Same.i (by decide)) (up_ls h302.symm h358 (l417.trans (by omega))).2 (by decide)), (Gd.sm h298 (Same.i (by decide)))⟩
              refine lv_aload_n E.1 E.2.1 dX11_compare_105 rfl (lv_at hl 3 rfl) ?_
              refine lv_iload_n E.1 E.2.1 dX11_compare_106 rfl (lv_at hl 1 rfl) ?_
              refine t_vi E G hl (v_makes l D K ad zz422 oo423 v33 h419) 11 (rfl : ro 386 = 11) (by decide) rfl rfl 1 rfl mw_code_X11_makes mw_ini_11 mw_ml_11_171 mw_inst_X11_makes mw_sel_X11_makes hd_X11_makes ⟨Nat.le_trans (by decide) hfr, Nat.le_trans (by decide) hlo⟩ rfl rfl rfl (Nat.le_of_ble_eq_true rfl) dX11_compare_107 (fun r428 zz427 H locs hp429 G => ?_)
              obtain ⟨oo430, kk431, b432, h433, h434⟩ := hp429
              have kk435 : KP1 z zz427 := KPf.tr kk424 (KMk.p1 kk431)
              have h436 : tI zz427 386 1 = v303 := KF.i kk431 11 (rfl : ro 386 = 11) (by decide) h425
              have h437 : tI zz427 386 8 = v414 := KF.i kk431 11 (rfl : ro 386 = 11) (by decide) h426
              have h438 := Scx.tr h418 (Scx.k h418.1 kk431 rfl rfl)
              have sm439 := Same.of kk431 rfl rfl rfl
              have h440 : SLk z + 2 ≤ SLk zz427 := sl_q 0 h420 sm439 (by rw [kk431.1 386 8 rfl]; omega) (by decide)
              have h441 := Gd.sm h421 sm439
              refine lv_if_ne (tgt := 115) E.1 E.2.1 dX11_compare_110 (by decide) (fun c442 => ?_) (fun c442 => ?_)
              · skip
                have b443 : iv 1 1 r428 := ne_lo c442 b432 (by decide) (by decide)
                refine lv_iload_n E.1 E.2.1 dX11_compare_115 rfl (lv_at hl 2 rfl) ?_
                refine lv_bipush (v := 60) E.1 E.2.1 dX11_compare_116 (by decide) ?_
                refine lv_icmp_ne (tgt := 133) E.1 E.2.1 dX11_compare_118 (by decide) (fun _ => ?_) (fun h => absurd h (ivne2 b288 (iv_lit (lo := 60) (hi := 60) 60 (by decide) (by decide)) (by decide)))
                refine lv_iload_n E.1 E.2.1 dX11_compare_133 rfl (lv_at hl 2 rfl) ?_
                refine lv_bipush (v := 61) E.1 E.2.1 dX11_compare_134 (by decide) ?_
                refine lv_icmp_ne (tgt := 143) E.1 E.2.1 dX11_compare_136 (by decide) (fun _ => ?_) (fun h => absurd h (ivne2 b288 (iv_lit (lo := 61) (hi := 61) 61 (by decide) (by decide)) (by decide)))
                refine lv_iload_n E.1 E.2.1 dX11_compare_143 rfl (lv_at hl 0 rfl) ?_
                refine lv_if_eq (tgt := 151) E.1 E.2.1 dX11_compare_144 (by decide) (fun h => absurd h (by decide)) (fun _ => ?_)
                refine lv_iconst (v := 3) E.1 E.2.1 dX11_compare_147 (by decide) ?_
                refine lv_goto (tgt := 152) E.1 E.2.1 dX11_compare_148 (by decide) ?_
                refine lv_istore (lv' := [(4, .int 3), (3, .int 1), (2, .int v33), (1, .int r18), (0, .ref (ad 386))]) E.1 E.2.1 dX11_compare_152 hl (by decide) rfl (fun ls hl => ?_)
                refine lv_aload_n E.1 E.2.1 dX11_compare_154 rfl (lv_at hl 4 rfl) ?_
                refine t_vi E G hl (v_sum l D K ad zz427 oo430 h433 (by have h1 := hs; have h2 := h440; omega)) 11 (rfl : ro 386 = 11) (by decide) rfl rfl 0 rfl mw_code_X11_sum mw_ini_11 mw_ml_11_184 mw_inst_X11_sum mw_sel_X11_sum hd_X11_sum ⟨Nat.le_trans (by decide) hfr, Nat.le_trans (by decide) hlo⟩ rfl rfl rfl (Nat.le_of_ble_eq_true rfl) dX11_compare_155 (fun r445 zz444 H locs hp446 G => ?_)
                obtain ⟨oo447, kk448, b449, h450, h451, h452, h453⟩ := hp446
                have kk454 : KP1 z zz444 := KPf.tr kk435 kk448
                have h455 : tI zz444 386 1 = v303 := KPf.i kk448 11 (rfl : ro 386 = 11) (by decide) h436
                have h456 := Scx.tr h438 h450
                have h457 : SLk z + 2 ≤ SLk zz444 := by have h1 := h440; have h2 := h452; omega
                refine lv_if_ne (tgt := 163) E.1 E.2.1 dX11_compare_158 (by decide) (fun c458 => ?_) (fun c458 => ?_)
                · skip
                  have b459 : iv 1 1 r445 := ne_lo c458 b449 (by decide) (by decide)
                  have h460 : Gd 2 0 z zz444 := Gd.tr h441 kk435 (h453 c458) (by decide) (by decide)
                  refine lv_aload_n E.1 E.2.1 dX11_compare_163 rfl (lv_at hl 4 rfl) ?_
                  refine lv_bipush (v := 6) E.1 E.2.1 dX11_compare_164 (by decide) ?_
                  refine lv_iload E.1 E.2.1 dX11_compare_166 (lv_at hl 0 rfl) ?_
                  refine lv_iadd E.1 E.2.1 dX11_compare_168 ?_
                  refine m_ci 9 (by decide) ?_
                  refine lv_iconst (v := 0) E.1 E.2.1 dX11_compare_169 (by decide) ?_
                  refine t_vv E G hl (v_puts_op l D K ad zz444 oo447 (9 : Int32) (iv_mono (iv_lit (lo := 9) (hi := 9) 9 (by decide) (by decide)) (by decide) (by decide)) h451 (le399 oo447 (by have h1 := hs; have h2 := h457; omega)) (by decide)) 11 (rfl : ro 386 = 11) (by decide) rfl rfl 2 rfl mw_code_X11_puts mw_ini_11 mw_ml_11_163 mw_inst_X11_puts mw_sel_X11_puts hd_X11_puts ⟨Nat.le_trans (by decide) hfr, Nat.le_trans (by decide) hlo⟩ rfl rfl rfl (Nat.le_of_ble_eq_true rfl) dX11_compare_170 (fun zz461 H locs hp463 G => ?_)
                  obtain ⟨oo464, kk465, h466, h467, h468⟩ := hp463
                  have kk469 : KP1 z zz461 := KPf.tr kk454 (KPU.p1 kk465)
                  have h470 : tI zz461 386 1 = v303 := KPf.i kk465 11 (rfl : ro 386 = 11) (by decide) h455
                  have h471 := Scx.tr h456 (scx_p h456.1 kk465 rfl rfl)
                  have h472 : SLk z + 1 ≤ SLk zz461 := by have h1 := h457; have h2 := h467; omega
                  have h473 : Gd 1 0 z zz461 := Gd.tr h460 kk454 h468 (by decide) (by decide)
                  refine lv_iconst (v := 1) E.1 E.2.1 dX11_compare_173 (by decide) ?_
                  exact RET G ⟨oo464, kk469, (iv_mono (iv_lit (lo := 1) (hi := 1) 1 (by decide) (by decide)) (by decide) (by decide)), h471, h466, (by have h := h472; omega), (fun _ => Gd.wk h473 (by decide) (by decide))⟩ (by decide) dX11_compare_174
                · skip
                  have b474 : iv 0 0 r445 := iv_eq c458 (iv_lit (lo := 0) (hi := 0) 0 (by decide) (by decide))
                  refine lv_iconst (v := 0) E.1 E.2.1 dX11_compare_161 (by decide) ?_
                  exact RET G ⟨oo447, kk454, (iv_mono (iv_lit (lo := 0) (hi := 0) 0 (by decide) (by decide)) (by decide) (by decide)), h456, h451, (by have h := h457; omega), (fun h => absurd rfl h)⟩ (by decide) dX11_compare_162
              · skip
                have b475 : iv 0 0 r428 := iv_eq c442 (iv_lit (lo := 0) (hi := 0) 0 (by decide) (by decide))
                refine lv_iconst (v := 0) E.1 E.2.1 dX11_compare_113 (by decide) ?_
                exact RET G ⟨oo430, kk435, (iv_mono (iv_lit (lo := 0) (hi := 0) 0 (by decide) (by decide)) (by decide) (by decide)), h438, h433, (by have h := h440; omega), (fun h => absurd rfl h)⟩ (by decide) dX11_compare_114
        · skip
          refine lv_aload_n E.1 E.2.1 dX11_compare_37 rfl (lv_at hl 2 rfl) ?_
          refine lv_iconst (v := 0) E.1 E.2.1 dX11_compare_38 (by decide) ?_
          refine lv_iload_n E.1 E.2.1 dX11_compare_39 rfl (lv_at hl 0 rfl) ?_
          refine t_vi E G hl (v_fails l D K ad zz17 oo20 (0 : Int32) v33) 11 (rfl : ro 386 = 11) (by decide) rfl rfl 2 rfl mw_code_X11_fails mw_ini_11 mw_ml_11_114 mw_inst_X11_fails mw_sel_X11_fails hd_X11_fails ⟨Nat.le_trans (by decide) hfr, Nat.le_trans (by decide) hlo⟩ rfl rfl rfl (Nat.le_of_ble_eq_true rfl) dX11_compare_40 (fun r477 zz476 H locs hp478 G => ?_)
          obtain ⟨oo479, kk480, b481⟩ := hp478
          have kk482 : KP1 z zz476 := KPf.tr kk27 (KA9.p1 kk480)
          have h483 : tI zz476 386 8 = v33 := KF.i kk480 11 (rfl : ro 386 = 11) (by decide) e34.symm
          have h484 := Scx.tr h28 (Scx.k h28.1 kk480 rfl rfl)
          have sm485 := Same.of kk480 rfl rfl rfl
          have h486 : PIx zz476 := pi_q h30 sm485 h484.1 (kk480.1 386 12 rfl) (kk480.1 386 11 rfl)
          have h487 : SLk z + 0 ≤ SLk zz476 := sl_q 0 h31 sm485 (by rw [kk480.1 386 8 rfl]; omega) (by decide)
          have h488 := Gd.sm h32 sm485
          exact RET G ⟨oo479, kk482, (iv_mono b481 (by decide) (by decide)), h484, h486, (by have h := h487; omega), (fun h => absurd (zero_of b481) h)⟩ (nar_b b481) dX11_compare_43
  · skip
    have b489 : iv 0 0 r2 := iv_eq c14 (iv_lit (lo := 0) (hi := 0) 0 (by decide) (by decide))
    refine lv_iconst (v := 0) E.1 E.2.1 dX11_compare_7 (by decide) ?_
    exact RET G ⟨oo4, kk11, (iv_mono (iv_lit (lo := 0) (hi := 0) 0 (by decide) (by decide)) (by decide) (by decide)), h12, h8, (by have h := h13; omega), (fun h => absurd rfl h)⟩ (by decide) dX11_compare_8
