theorem dX11_rule_0 : decode cX11_rule 0 = .ok (.aload_n 0, 1) := by decide +kernel
theorem dX11_rule_1 : decode cX11_rule 1 = .ok (.getfield 258, 3) := by decide +kernel
theorem dX11_rule_4 : decode cX11_rule 4 = .ok (.bipush 6, 2) := by decide +kernel
theorem dX11_rule_6 : decode cX11_rule 6 = .ok (.if_icmp .ne 5, 3) := by decide +kernel
theorem dX11_rule_9 : decode cX11_rule 9 = .ok (.iconst (-1), 1) := by decide +kernel
theorem dX11_rule_10 : decode cX11_rule 10 = .ok (.ireturn, 1) := by decide +kernel
theorem dX11_rule_11 : decode cX11_rule 11 = .ok (.aload_n 0, 1) := by decide +kernel
theorem dX11_rule_12 : decode cX11_rule 12 = .ok (.aload_n 0, 1) := by decide +kernel
theorem dX11_rule_13 : decode cX11_rule 13 = .ok (.getfield 258, 3) := by decide +kernel
theorem dX11_rule_16 : decode cX11_rule 16 = .ok (.putfield 147, 3) := by decide +kernel
theorem dX11_rule_19 : decode cX11_rule 19 = .ok (.aload_n 0, 1) := by decide +kernel
theorem dX11_rule_20 : decode cX11_rule 20 = .ok (.getfield 23, 3) := by decide +kernel
theorem dX11_rule_23 : decode cX11_rule 23 = .ok (.aload_n 0, 1) := by decide +kernel
theorem dX11_rule_24 : decode cX11_rule 24 = .ok (.getfield 147, 3) := by decide +kernel
theorem dX11_rule_27 : decode cX11_rule 27 = .ok (.iconst 0, 1) := by decide +kernel
theorem dX11_rule_28 : decode cX11_rule 28 = .ok (.iastore, 1) := by decide +kernel
theorem dX11_rule_29 : decode cX11_rule 29 = .ok (.aload_n 0, 1) := by decide +kernel
theorem dX11_rule_30 : decode cX11_rule 30 = .ok (.invokevirtual 261, 3) := by decide +kernel
theorem dX11_rule_33 : decode cX11_rule 33 = .ok (.ifCond .ne 11, 3) := by decide +kernel
theorem dX11_rule_36 : decode cX11_rule 36 = .ok (.bipush (-2), 2) := by decide +kernel
theorem dX11_rule_38 : decode cX11_rule 38 = .ok (.aload_n 0, 1) := by decide +kernel
theorem dX11_rule_39 : decode cX11_rule 39 = .ok (.getfield 90, 3) := by decide +kernel
theorem dX11_rule_42 : decode cX11_rule 42 = .ok (.isub, 1) := by decide +kernel
theorem dX11_rule_43 : decode cX11_rule 43 = .ok (.ireturn, 1) := by decide +kernel
theorem dX11_rule_44 : decode cX11_rule 44 = .ok (.aload_n 0, 1) := by decide +kernel
theorem dX11_rule_45 : decode cX11_rule 45 = .ok (.dup, 1) := by decide +kernel
theorem dX11_rule_46 : decode cX11_rule 46 = .ok (.getfield 258, 3) := by decide +kernel
theorem dX11_rule_49 : decode cX11_rule 49 = .ok (.iconst 1, 1) := by decide +kernel
theorem dX11_rule_50 : decode cX11_rule 50 = .ok (.iadd, 1) := by decide +kernel
theorem dX11_rule_51 : decode cX11_rule 51 = .ok (.putfield 258, 3) := by decide +kernel
theorem dX11_rule_54 : decode cX11_rule 54 = .ok (.aload_n 0, 1) := by decide +kernel
theorem dX11_rule_55 : decode cX11_rule 55 = .ok (.getfield 258, 3) := by decide +kernel
theorem dX11_rule_58 : decode cX11_rule 58 = .ok (.iconst 1, 1) := by decide +kernel
theorem dX11_rule_59 : decode cX11_rule 59 = .ok (.isub, 1) := by decide +kernel
theorem dX11_rule_60 : decode cX11_rule 60 = .ok (.ireturn, 1) := by decide +kernel
set_option maxHeartbeats 4000000 in
set_option maxRecDepth 100000 in
theorem v_rule (l : Launch) (D : va_G) (K : Nat → ClassId) (ad : Nat → Nat) (z : TS) (o : Ok z) (wf : WFc z) : cI l yX11_rule cX11_rule 1 .int ({ frames := 12, cells := 0, slots := 0, locals := 262 }) D K ad z [.ref (ad 386)] (fun r u => Ok u ∧ KRu z u ∧ (WFc u)) := by
  refine t_enterI (by decide) (Nat.le_of_ble_eq_true rfl) rfl rfl ?_
  intro p e s m args below meth c A R Q H locs ls E hfr hlo RET G hl
  have E : mE p s m meth c cX11_rule args 1 RX11 D K A := E
  have hl : lv_has ls 1 [(0, .ref (ad 386))] := hl
  refine lv_aload_n E.1 E.2.1 dX11_rule_0 rfl (lv_at hl 0 rfl) ?_
  refine t_get E G 11 2 (rfl : ro 386 = 11) (C := RX11) (T := TX11) (N := 37) rfl (by decide) (by decide) (by decide) mw_fl_11_258 (fvl_i rfl) dX11_rule_1 ?_
  refine lv_topi (fun v1 e2 => ?_)
  have b3 : iv 0 6 v1 := by rw [e2]; exact o.i 11 2 (rfl : ro 386 = 11)
  refine lv_bipush (v := 6) E.1 E.2.1 dX11_rule_4 (by decide) ?_
  refine lv_icmp_ne (tgt := 11) E.1 E.2.1 dX11_rule_6 (by decide) (fun c4 => ?_) (fun c4 => ?_)
  · skip
    have b5 : iv 0 5 v1 := ne_hi c4 b3 (by decide) (by decide)
    refine lv_aload_n E.1 E.2.1 dX11_rule_11 rfl (lv_at hl 0 rfl) ?_
    refine lv_aload_n E.1 E.2.1 dX11_rule_12 rfl (lv_at hl 0 rfl) ?_
    refine t_get E G 11 2 (rfl : ro 386 = 11) (C := RX11) (T := TX11) (N := 37) rfl (by decide) (by decide) (by decide) mw_fl_11_258 (fvl_i rfl) dX11_rule_13 ?_
    refine m_ci v1 e2.symm ?_
    refine t_puti E G 11 11 (rfl : ro 386 = 11) (C := RX11) (T := TX11) (N := 37) rfl (by decide) (by decide) (by decide) rfl rfl mw_fl_11_147 rfl dX11_rule_16 (fun H locs G => ?_)
    obtain ⟨zz7, G, oo8, kk9, h10, h11, h6⟩ : ∃ u : TS, mG D A s H locs (wd K ad u) ∧ Ok u ∧ KRu z u ∧ tI u 386 2 = v1 ∧ tI u 386 11 = v1 ∧ (WFc u) := ⟨_, G, ok_i o 11 (rfl : ro 386 = 11) (iv_mono b5 (by decide) (by decide)) (by decide), KF.tr KF.rf (KF_i 11 (rfl : ro 386 = 11) (by decide)), (sI_k e2.symm (by decide)), sI_self, wf⟩
    refine lv_aload_n E.1 E.2.1 dX11_rule_19 rfl (lv_at hl 0 rfl) ?_
    refine t_get E G 11 6 (rfl : ro 386 = 11) (C := RX11) (T := TX11) (N := 37) rfl (by decide) (by decide) (by decide) mw_fl_11_23 (v := .ref (ad 391)) (fvl_o (n := 5) rfl) dX11_rule_20 ?_
    refine lv_aload_n E.1 E.2.1 dX11_rule_23 rfl (lv_at hl 0 rfl) ?_
    refine t_get E G 11 11 (rfl : ro 386 = 11) (C := RX11) (T := TX11) (N := 37) rfl (by decide) (by decide) (by decide) mw_fl_11_147 (fvl_i rfl) dX11_rule_24 ?_
    refine m_ci v1 h11 ?_
    refine lv_iconst (v := 0) E.1 E.2.1 dX11_rule_27 (by decide) ?_
    refine t_iast E G 49 (rfl : ro 391 = 49) (by decide) (by decide) rfl (n := 6) rfl (iv_vp b5 (by decide) (by decide)) dX11_rule_28 (fun H locs G => ?_)
    obtain ⟨zz14, G, oo15, kk16, h17, h18, h12, h13⟩ : ∃ u : TS, mG D A s H locs (wd K ad u) ∧ Ok u ∧ KRu z u ∧ tI u 386 2 = v1 ∧ tI u 386 11 = v1 ∧ (WFc u) ∧ ((tA u 391 (tx u)).toInt = 0) := ⟨_, G, ok_u oo8 49 (rfl : ro 391 = 49) (wr_u (by decide) (iv_mono (iv_lit (lo := 0) (hi := 0) 0 (by decide) (by decide)) (by decide) (by decide))) (by decide), KF.tr kk9 (KF_r 49 (rfl : ro 391 = 49) (by decide)), h10, h11, (wf_c0 h6), (c0_of (tx_of h11.symm))⟩
    refine lv_aload_n E.1 E.2.1 dX11_rule_29 rfl (lv_at hl 0 rfl) ?_
    refine t_vi E G hl (v_readsR l D K ad zz14 oo15 (by rw [h18]; exact iv_mono b5 (by decide) (by decide)) h12 h13) 11 (rfl : ro 386 = 11) (by decide) rfl rfl 0 rfl mw_code_X11_readsAll mw_ini_11 mw_ml_11_261 mw_inst_X11_readsAll mw_sel_X11_readsAll hd_X11_readsAll ⟨Nat.le_trans (by decide) hfr, Nat.le_trans (by decide) hlo⟩ rfl rfl rfl (Nat.le_of_ble_eq_true rfl) dX11_rule_30 (fun r20 zz19 H locs hp21 G => ?_)
    obtain ⟨oo22, kk23, b24, h25⟩ := hp21
    have kk26 : KRu z zz19 := KF.tr kk16 (KRr.u kk23)
    have h27 : tI zz19 386 2 = v1 := KF.i kk23 11 (rfl : ro 386 = 11) (by decide) h17
    have h28 : tI zz19 386 11 = v1 := KF.i kk23 11 (rfl : ro 386 = 11) (by decide) h18
    refine lv_if_ne (tgt := 44) E.1 E.2.1 dX11_rule_33 (by decide) (fun c29 => ?_) (fun c29 => ?_)
    · skip
      have b30 : iv 1 1 r20 := ne_lo c29 b24 (by decide) (by decide)
      refine lv_aload_n E.1 E.2.1 dX11_rule_44 rfl (lv_at hl 0 rfl) ?_
      refine lv_dup E.1 E.2.1 dX11_rule_45 rfl ?_
      refine t_get E G 11 2 (rfl : ro 386 = 11) (C := RX11) (T := TX11) (N := 37) rfl (by decide) (by decide) (by decide) mw_fl_11_258 (fvl_i rfl) dX11_rule_46 ?_
      refine m_ci v1 h27 ?_
      refine lv_iconst (v := 1) E.1 E.2.1 dX11_rule_49 (by decide) ?_
      refine lv_iadd E.1 E.2.1 dX11_rule_50 ?_
      refine lv_topi (fun v31 e32 => ?_)
      have b33 : iv 1 6 v31 := by rw [e32]; exact iv_add b5 (iv_lit (lo := 1) (hi := 1) 1 (by decide) (by decide)) (by decide) (by decide) (by decide) (by decide)
      have l34 : v31.toInt = 1 + 1 * v1.toInt := (show v31.toInt = v1.toInt + 1 by rw [e32]; exact ti_addc 1 (by decide) b5 (by decide) (by decide)).trans (by omega)
      refine t_puti E G 11 2 (rfl : ro 386 = 11) (C := RX11) (T := TX11) (N := 37) rfl (by decide) (by decide) (by decide) rfl rfl mw_fl_11_258 rfl dX11_rule_51 (fun H locs G => ?_)
      obtain ⟨zz36, G, oo37, kk38, h39, h40, h35⟩ : ∃ u : TS, mG D A s H locs (wd K ad u) ∧ Ok u ∧ KRu z u ∧ tI u 386 11 = v1 ∧ tI u 386 2 = v31 ∧ (WFc u) := ⟨_, G, ok_i oo22 11 (rfl : ro 386 = 11) (iv_mono b33 (by decide) (by decide)) (by decide), KF.tr kk26 (KF_i 11 (rfl : ro 386 = 11) (by decide)), (sI_k h28 (by decide)), sI_self, h25⟩
      refine lv_aload_n E.1 E.2.1 dX11_rule_54 rfl (lv_at hl 0 rfl) ?_
      refine t_get E G 11 2 (rfl : ro 386 = 11) (C := RX11) (T := TX11) (N := 37) rfl (by decide) (by decide) (by decide) mw_fl_11_258 (fvl_i rfl) dX11_rule_55 ?_
      refine m_ci v31 h40 ?_
      refine lv_iconst (v := 1) E.1 E.2.1 dX11_rule_58 (by decide) ?_
      refine lv_isub E.1 E.2.1 dX11_rule_59 ?_
      refine lv_topi (fun v41 e42 => ?_)
      have b43 : iv 0 5 v41 := by rw [e42]; exact iv_sub b33 (iv_lit (lo := 1) (hi := 1) 1 (by decide) (by decide)) (by decide) (by decide) (by decide) (by decide)
      have l44 : v41.toInt = 0 + 1 * v1.toInt := (show v41.toInt = v31.toInt - 1 by rw [e42]; exact ti_subc 1 (by decide) b33 (by decide) (by decide)).trans (by omega)
      exact RET G ⟨oo37, kk38, h35⟩ rfl dX11_rule_60
    · skip
      have b45 : iv 0 0 r20 := iv_eq c29 (iv_lit (lo := 0) (hi := 0) 0 (by decide) (by decide))
      refine lv_bipush (v := (-2)) E.1 E.2.1 dX11_rule_36 (by decide) ?_
      refine lv_aload_n E.1 E.2.1 dX11_rule_38 rfl (lv_at hl 0 rfl) ?_
      refine t_get E G 11 9 (rfl : ro 386 = 11) (C := RX11) (T := TX11) (N := 37) rfl (by decide) (by decide) (by decide) mw_fl_11_90 (fvl_i rfl) dX11_rule_39 ?_
      refine lv_topi (fun v46 e47 => ?_)
      refine lv_isub E.1 E.2.1 dX11_rule_42 ?_
      refine lv_topi (fun v48 e49 => ?_)
      exact RET G ⟨oo22, kk26, h25⟩ rfl dX11_rule_43
  · skip
    have b50 : iv 6 6 v1 := iv_eq c4 (iv_lit (lo := 6) (hi := 6) 6 (by decide) (by decide))
    refine lv_iconst (v := (-1)) E.1 E.2.1 dX11_rule_9 (by decide) ?_
    exact RET G ⟨o, KF.rf, wf⟩ rfl dX11_rule_10
