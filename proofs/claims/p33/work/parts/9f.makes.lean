theorem dX11_makes_0 : decode cX11_makes 0 = .ok (.aload_n 0, 1) := by decide +kernel
theorem dX11_makes_1 : decode cX11_makes 1 = .ok (.getfield 150, 3) := by decide +kernel
theorem dX11_makes_4 : decode cX11_makes 4 = .ok (.bipush 60, 2) := by decide +kernel
theorem dX11_makes_6 : decode cX11_makes 6 = .ok (.if_icmp .ne 10, 3) := by decide +kernel
theorem dX11_makes_9 : decode cX11_makes 9 = .ok (.aload_n 0, 1) := by decide +kernel
theorem dX11_makes_10 : decode cX11_makes 10 = .ok (.iconst 3, 1) := by decide +kernel
theorem dX11_makes_11 : decode cX11_makes 11 = .ok (.iload_n 1, 1) := by decide +kernel
theorem dX11_makes_12 : decode cX11_makes 12 = .ok (.invokevirtual 114, 3) := by decide +kernel
theorem dX11_makes_15 : decode cX11_makes 15 = .ok (.ireturn, 1) := by decide +kernel
theorem dX11_makes_16 : decode cX11_makes 16 = .ok (.aload_n 0, 1) := by decide +kernel
theorem dX11_makes_17 : decode cX11_makes 17 = .ok (.dup, 1) := by decide +kernel
theorem dX11_makes_18 : decode cX11_makes 18 = .ok (.getfield 150, 3) := by decide +kernel
theorem dX11_makes_21 : decode cX11_makes 21 = .ok (.iconst 1, 1) := by decide +kernel
theorem dX11_makes_22 : decode cX11_makes 22 = .ok (.iadd, 1) := by decide +kernel
theorem dX11_makes_23 : decode cX11_makes 23 = .ok (.putfield 150, 3) := by decide +kernel
theorem dX11_makes_26 : decode cX11_makes 26 = .ok (.iconst 1, 1) := by decide +kernel
theorem dX11_makes_27 : decode cX11_makes 27 = .ok (.ireturn, 1) := by decide +kernel
theorem KZ.p2 {z u : TS} (h : KZ z u) : KP2 z u := KP1.p2 (KZ.p1 h)
theorem KN8.p2 {z u : TS} (h : KN8 z u) : KP2 z u := KP1.p2 (KN8.p1 h)
theorem KA9.p2 {z u : TS} (h : KA9 z u) : KP2 z u := KP1.p2 (KA9.p1 h)
theorem KMk.p2 {z u : TS} (h : KMk z u) : KP2 z u := KP1.p2 (KMk.p1 h)
theorem le399 {z : TS} (o : Ok z) (h : 1 ≤ SLk z) : Ln z ≤ 399 := by
  have b := (o.i (j := 386) 11 8 rfl).2
  have e : ihi 11 8 = 400 := by decide
  unfold SLk at h
  omega
theorem hm_q {z u : TS} (h : Hh z + 1 ≤ (tI z 386 12).toInt) (s : Same z u) (md : tI u 386 12 = tI z 386 12) : Hh u + 1 ≤ (tI u 386 12).toInt := by
  rw [s.e.2.2, md]; exact h
theorem sl_0 {z : TS} : SLk z + 0 ≤ SLk z := by omega
set_option maxHeartbeats 4000000 in
set_option maxRecDepth 100000 in
theorem v_makes (l : Launch) (D : va_G) (K : Nat → ClassId) (ad : Nat → Nat) (z : TS) (o : Ok z) (x1 : Int32) (hp : PIx z) : cI l yX11_makes cX11_makes 2 .boolean ({ frames := 1, cells := 0, slots := 0, locals := 22 }) D K ad z [.ref (ad 386), .int x1] (fun r u => Ok u ∧ KMk z u ∧ iv 0 1 r ∧ (PIx u) ∧ (¬ r = 0 → Hh u + 1 ≤ (tI u 386 12).toInt)) := by
  refine t_enterI (by decide) (Nat.le_of_ble_eq_true rfl) rfl rfl ?_
  intro p e s m args below meth c A R Q H locs ls E hfr hlo RET G hl
  have E : mE p s m meth c cX11_makes args 2 RX11 D K A := E
  have hl : lv_has ls 2 [(0, .ref (ad 386)), (1, .int x1)] := hl
  refine lv_aload_n E.1 E.2.1 dX11_makes_0 rfl (lv_at hl 0 rfl) ?_
  refine t_get E G 11 12 (rfl : ro 386 = 11) (C := RX11) (T := TX11) (N := 37) rfl (by decide) (by decide) (by decide) mw_fl_11_150 (fvl_i rfl) dX11_makes_1 ?_
  refine lv_topi (fun v1 e2 => ?_)
  have b3 : iv (-2147483648) 60 v1 := ⟨(iv_full _).1, by have e := congrArg Int32.toInt e2; have := hp.2.2.2.1; omega⟩
  refine lv_bipush (v := 60) E.1 E.2.1 dX11_makes_4 (by decide) ?_
  refine lv_icmp_ne (tgt := 16) E.1 E.2.1 dX11_makes_6 (by decide) (fun c4 => ?_) (fun c4 => ?_)
  · skip
    have b5 : iv (-2147483648) 59 v1 := ne_hi c4 b3 (by decide) (by decide)
    refine lv_aload_n E.1 E.2.1 dX11_makes_16 rfl (lv_at hl 0 rfl) ?_
    refine lv_dup E.1 E.2.1 dX11_makes_17 rfl ?_
    refine t_get E G 11 12 (rfl : ro 386 = 11) (C := RX11) (T := TX11) (N := 37) rfl (by decide) (by decide) (by decide) mw_fl_11_150 (fvl_i rfl) dX11_makes_18 ?_
    refine m_ci v1 e2.symm ?_
    refine lv_iconst (v := 1) E.1 E.2.1 dX11_makes_21 (by decide) ?_
    refine lv_iadd E.1 E.2.1 dX11_makes_22 ?_
    refine lv_topi (fun v6 e7 => ?_)
    have b8 : iv (-2147483647) 60 v6 := by rw [e7]; exact iv_add b5 (iv_lit (lo := 1) (hi := 1) 1 (by decide) (by decide)) (by decide) (by decide) (by decide) (by decide)
    have l9 : v6.toInt = 1 + 1 * v1.toInt := (show v6.toInt = v1.toInt + 1 by rw [e7]; exact ti_addc 1 (by decide) b5 (by decide) (by decide)).trans (by omega)
    refine t_puti E G 11 12 (rfl : ro 386 = 11) (C := RX11) (T := TX11) (N := 37) rfl (by decide) (by decide) (by decide) rfl rfl mw_fl_11_150 rfl dX11_makes_23 (fun H locs G => ?_)
    obtain ⟨zz12, G, oo13, kk14, h15, h10, h11⟩ : ∃ u : TS, mG D A s H locs (wd K ad u) ∧ Ok u ∧ KMk z u ∧ tI u 386 12 = v6 ∧ (PIx u) ∧ (Hh u + 1 ≤ (tI u 386 12).toInt) := ⟨_, G, ok_i o 11 (rfl : ro 386 = 11) (iv_full _) (by decide), KF.tr KF.rf (KF_i 11 (rfl : ro 386 = 11) (by decide)), sI_self, (pi_m hp (by have := hp.2.2.1; have e := congrArg Int32.toInt e2; have := l9; omega) (by have := b8.2; omega)), (hh_m (by have := hp.2.2.1; have e := congrArg Int32.toInt e2; have := l9; omega))⟩
    refine lv_iconst (v := 1) E.1 E.2.1 dX11_makes_26 (by decide) ?_
    exact RET G ⟨oo13, kk14, (iv_mono (iv_lit (lo := 1) (hi := 1) 1 (by decide) (by decide)) (by decide) (by decide)), h10, (fun _ => h11)⟩ (by decide) dX11_makes_27
  · skip
    have b16 : iv 60 60 v1 := iv_eq c4 (iv_lit (lo := 60) (hi := 60) 60 (by decide) (by decide))
    refine lv_aload_n E.1 E.2.1 dX11_makes_9 rfl (lv_at hl 0 rfl) ?_
    refine lv_iconst (v := 3) E.1 E.2.1 dX11_makes_10 (by decide) ?_
    refine lv_iload_n E.1 E.2.1 dX11_makes_11 rfl (lv_at hl 1 rfl) ?_
    refine t_vi E G hl (v_fails l D K ad z o (3 : Int32) x1) 11 (rfl : ro 386 = 11) (by decide) rfl rfl 2 rfl mw_code_X11_fails mw_ini_11 mw_ml_11_114 mw_inst_X11_fails mw_sel_X11_fails hd_X11_fails ⟨Nat.le_trans (by decide) hfr, Nat.le_trans (by decide) hlo⟩ rfl rfl rfl (Nat.le_of_ble_eq_true rfl) dX11_makes_12 (fun r18 zz17 H locs hp19 G => ?_)
    obtain ⟨oo20, kk21, b22⟩ := hp19
    have kk23 : KMk z zz17 := KF.tr KF.rf (KA9.mk kk21)
    have h24 : tI zz17 386 12 = v1 := KF.i kk21 11 (rfl : ro 386 = 11) (by decide) e2.symm
    exact RET G ⟨oo20, kk23, (iv_mono b22 (by decide) (by decide)), (pi_q hp (Same.of kk21 rfl rfl rfl) (Scx.k hp.2.1 kk21 rfl rfl).1 (kk21.1 386 12 rfl) (kk21.1 386 11 rfl)), (fun h => absurd (zero_of b22) h)⟩ (nar_b b22) dX11_makes_15
