theorem dX11_puts_0 : decode cX11_puts 0 = .ok (.aload_n 0, 1) := by decide +kernel
theorem dX11_puts_1 : decode cX11_puts 1 = .ok (.getfield 13, 3) := by decide +kernel
theorem dX11_puts_4 : decode cX11_puts 4 = .ok (.sipush 400, 3) := by decide +kernel
theorem dX11_puts_7 : decode cX11_puts 7 = .ok (.aload_n 0, 1) := by decide +kernel
theorem dX11_puts_8 : decode cX11_puts 8 = .ok (.getfield 147, 3) := by decide +kernel
theorem dX11_puts_11 : decode cX11_puts 11 = .ok (.imul, 1) := by decide +kernel
theorem dX11_puts_12 : decode cX11_puts 12 = .ok (.aload_n 0, 1) := by decide +kernel
theorem dX11_puts_13 : decode cX11_puts 13 = .ok (.getfield 17, 3) := by decide +kernel
theorem dX11_puts_16 : decode cX11_puts 16 = .ok (.aload_n 0, 1) := by decide +kernel
theorem dX11_puts_17 : decode cX11_puts 17 = .ok (.getfield 147, 3) := by decide +kernel
theorem dX11_puts_20 : decode cX11_puts 20 = .ok (.iaload, 1) := by decide +kernel
theorem dX11_puts_21 : decode cX11_puts 21 = .ok (.iadd, 1) := by decide +kernel
theorem dX11_puts_22 : decode cX11_puts 22 = .ok (.iload_n 1, 1) := by decide +kernel
theorem dX11_puts_23 : decode cX11_puts 23 = .ok (.bipush 16, 2) := by decide +kernel
theorem dX11_puts_25 : decode cX11_puts 25 = .ok (.iload_n 2, 1) := by decide +kernel
theorem dX11_puts_26 : decode cX11_puts 26 = .ok (.imul, 1) := by decide +kernel
theorem dX11_puts_27 : decode cX11_puts 27 = .ok (.iadd, 1) := by decide +kernel
theorem dX11_puts_28 : decode cX11_puts 28 = .ok (.iastore, 1) := by decide +kernel
theorem dX11_puts_29 : decode cX11_puts 29 = .ok (.aload_n 0, 1) := by decide +kernel
theorem dX11_puts_30 : decode cX11_puts 30 = .ok (.getfield 17, 3) := by decide +kernel
theorem dX11_puts_33 : decode cX11_puts 33 = .ok (.aload_n 0, 1) := by decide +kernel
theorem dX11_puts_34 : decode cX11_puts 34 = .ok (.getfield 147, 3) := by decide +kernel
theorem dX11_puts_37 : decode cX11_puts 37 = .ok (.dup2, 1) := by decide +kernel
theorem dX11_puts_38 : decode cX11_puts 38 = .ok (.iaload, 1) := by decide +kernel
theorem dX11_puts_39 : decode cX11_puts 39 = .ok (.iconst 1, 1) := by decide +kernel
theorem dX11_puts_40 : decode cX11_puts 40 = .ok (.iadd, 1) := by decide +kernel
theorem dX11_puts_41 : decode cX11_puts 41 = .ok (.iastore, 1) := by decide +kernel
theorem dX11_puts_42 : decode cX11_puts 42 = .ok (.return_, 1) := by decide +kernel
set_option maxHeartbeats 4000000 in
set_option maxRecDepth 100000 in
theorem v_puts_num (l : Launch) (D : va_G) (K : Nat → ClassId) (ad : Nat → Nat) (z : TS) (o : Ok z) (x2 : Int32) (bx2 : iv 0 99999 x2) (hp : PIx z) (hle : Ln z ≤ 399) (hm : Hh z + 1 ≤ (tI z 386 12).toInt) : cV l yX11_puts cX11_puts 3 ({ frames := 0, cells := 0, slots := 0, locals := 0 }) D K ad z [.ref (ad 386), .int 0, .int x2] (fun u => Ok u ∧ KPU z u ∧ (PIx u) ∧ (SLk u = SLk z - 1) ∧ (Gd 1 0 z u)) := by
  refine t_enterV (by decide) (Nat.le_of_ble_eq_true rfl) rfl rfl ?_
  intro p e s m args below meth c A R Q H locs ls E hfr hlo RET G hl
  have E : mE p s m meth c cX11_puts args 3 RX11 D K A := E
  have hl : lv_has ls 3 [(0, .ref (ad 386)), (1, .int 0), (2, .int x2)] := hl
  refine lv_aload_n E.1 E.2.1 dX11_puts_0 rfl (lv_at hl 0 rfl) ?_
  refine t_get E G 11 3 (rfl : ro 386 = 11) (C := RX11) (T := TX11) (N := 37) rfl (by decide) (by decide) (by decide) mw_fl_11_13 (v := .ref (ad 388)) (fvl_o (n := 2) rfl) dX11_puts_1 ?_
  refine lv_sipush (v := 400) E.1 E.2.1 dX11_puts_4 (by decide) ?_
  refine lv_aload_n E.1 E.2.1 dX11_puts_7 rfl (lv_at hl 0 rfl) ?_
  refine t_get E G 11 11 (rfl : ro 386 = 11) (C := RX11) (T := TX11) (N := 37) rfl (by decide) (by decide) (by decide) mw_fl_11_147 (fvl_i rfl) dX11_puts_8 ?_
  refine lv_topi (fun v1 e2 => ?_)
  have b3 : iv 0 6 v1 := by rw [e2]; exact o.i 11 11 (rfl : ro 386 = 11)
  have b4 : iv 0 5 v1 := by rw [(e2.trans rfl)]; exact hp.1
  refine lv_imul E.1 E.2.1 dX11_puts_11 ?_
  refine lv_topi (fun v5 e6 => ?_)
  have b7 : iv 0 2000 v5 := by rw [e6]; exact iv_mulc' b4 400 (by decide) (by decide) (by decide) (by decide) (by decide) (by decide)
  have l8 : v5.toInt = 0 + 400 * v1.toInt := (show v5.toInt = 400 * v1.toInt by rw [e6]; exact ti_cmul 400 (by decide) (by decide) b4 (by decide) (by decide)).trans (by omega)
  refine lv_aload_n E.1 E.2.1 dX11_puts_12 rfl (lv_at hl 0 rfl) ?_
  refine t_get E G 11 4 (rfl : ro 386 = 11) (C := RX11) (T := TX11) (N := 37) rfl (by decide) (by decide) (by decide) mw_fl_11_17 (v := .ref (ad 389)) (fvl_o (n := 3) rfl) dX11_puts_13 ?_
  refine lv_aload_n E.1 E.2.1 dX11_puts_16 rfl (lv_at hl 0 rfl) ?_
  refine t_get E G 11 11 (rfl : ro 386 = 11) (C := RX11) (T := TX11) (N := 37) rfl (by decide) (by decide) (by decide) mw_fl_11_147 (fvl_i rfl) dX11_puts_17 ?_
  refine m_ci v1 e2.symm ?_
  refine t_iald E G 47 (rfl : ro 389 = 47) (by decide) (by decide) rfl (n := 7) rfl (iv_vp b4 (by decide) (by decide)) dX11_puts_20 ?_
  refine lv_topi (fun v9 e10 => ?_)
  have b11 : iv 0 400 v9 := by rw [e10]; exact iv_mono (rd_u o 47 (rfl : ro 389 = 47) (by decide) _) (by decide) (by decide)
  have h12 := pl_iv (e2.trans rfl) e10 b11 hle
  have b13 : iv 0 399 v9 := h12.1
  refine lv_iadd E.1 E.2.1 dX11_puts_21 ?_
  refine lv_topi (fun v14 e15 => ?_)
  have b16 : iv 0 2399 v14 := by rw [e15]; exact iv_add b7 b13 (by decide) (by decide) (by decide) (by decide)
  have l17 : v14.toInt = 0 + 400 * v1.toInt + 1 * v9.toInt := (show v14.toInt = v5.toInt + v9.toInt by rw [e15]; exact ti_addv b7 b13 (by decide) (by decide)).trans (by omega)
  refine lv_iload_n E.1 E.2.1 dX11_puts_22 rfl (lv_at hl 1 rfl) ?_
  refine lv_bipush (v := 16) E.1 E.2.1 dX11_puts_23 (by decide) ?_
  refine lv_iload_n E.1 E.2.1 dX11_puts_25 rfl (lv_at hl 2 rfl) ?_
  refine lv_imul E.1 E.2.1 dX11_puts_26 ?_
  refine lv_topi (fun v18 e19 => ?_)
  have b20 : iv 0 1599984 v18 := by rw [e19]; exact iv_mulc' bx2 16 (by decide) (by decide) (by decide) (by decide) (by decide) (by decide)
  have l21 : v18.toInt = 0 + 16 * x2.toInt := (show v18.toInt = 16 * x2.toInt by rw [e19]; exact ti_cmul 16 (by decide) (by decide) bx2 (by decide) (by decide)).trans (by omega)
  refine lv_iadd E.1 E.2.1 dX11_puts_27 ?_
  refine lv_topi (fun v22 e23 => ?_)
  have b24 : iv 0 1599984 v22 := by rw [e23]; exact iv_add (iv_lit (lo := 0) (hi := 0) 0 (by decide) (by decide)) b20 (by decide) (by decide) (by decide) (by decide)
  have l25 : v22.toInt = 0 + 16 * x2.toInt := (show v22.toInt = 0 + v18.toInt by rw [e23]; exact ti_cadd 0 (by decide) b20 (by decide) (by decide)).trans (by omega)
  refine t_iast E G 46 (rfl : ro 388 = 46) (by decide) (by decide) rfl (n := 2400) rfl (iv_vp b16 (by decide) (by decide)) dX11_puts_28 (fun H locs G => ?_)
  have h26 : v14.toNatClampNeg = 400 * tx z + Ln z := by have e1 := tx_of (e2.trans rfl); have e2 := h12.2; have e3 : v14.toNatClampNeg = v14.toInt.toNat := rfl; have n1 := iv_nat b4 (by decide); have n2 := iv_nat b13 (by decide); have := l17; omega
  obtain ⟨zz29, G, oo30, kk31, h32, h27, h28⟩ : ∃ u : TS, mG D A s H locs (wd K ad u) ∧ Ok u ∧ KPU z u ∧ tI u 386 11 = v1 ∧ (tA u 388 = upd (tA z 388) (400 * tx z + Ln z) v22) ∧ (tA u 389 = tA z 389) := ⟨_, G, ok_u o 46 (rfl : ro 388 = 46) (wr_u (by decide) (iv_full _)) (by decide), KPf.tr KPf.rf (KPf_sign h26 hle), e2.symm, (by rw [sR_row, h26]), (sR_o rfl (by decide))⟩
  refine lv_aload_n E.1 E.2.1 dX11_puts_29 rfl (lv_at hl 0 rfl) ?_
  refine t_get E G 11 4 (rfl : ro 386 = 11) (C := RX11) (T := TX11) (N := 37) rfl (by decide) (by decide) (by decide) mw_fl_11_17 (v := .ref (ad 389)) (fvl_o (n := 3) rfl) dX11_puts_30 ?_
  refine lv_aload_n E.1 E.2.1 dX11_puts_33 rfl (lv_at hl 0 rfl) ?_
  refine t_get E G 11 11 (rfl : ro 386 = 11) (C := RX11) (T := TX11) (N := 37) rfl (by decide) (by decide) (by decide) mw_fl_11_147 (fvl_i rfl) dX11_puts_34 ?_
  refine m_ci v1 h32 ?_
  refine lv_dup2_11 E.1 E.2.1 dX11_puts_37 rfl rfl ?_
  refine t_iald E G 47 (rfl : ro 389 = 47) (by decide) (by decide) rfl (n := 7) rfl (iv_vp b4 (by decide) (by decide)) dX11_puts_38 ?_
  refine m_ci v9 (by rw [h28]; exact e10.symm) ?_
  refine lv_iconst (v := 1) E.1 E.2.1 dX11_puts_39 (by decide) ?_
  refine lv_iadd E.1 E.2.1 dX11_puts_40 ?_
  refine lv_topi (fun v33 e34 => ?_)
  have b35 : iv 1 400 v33 := by rw [e34]; exact iv_add b13 (iv_lit (lo := 1) (hi := 1) 1 (by decide) (by decide)) (by decide) (by decide) (by decide) (by decide)
  have l36 : v33.toInt = 1 + 1 * v9.toInt := (show v33.toInt = v9.toInt + 1 by rw [e34]; exact ti_addc 1 (by decide) b13 (by decide) (by decide)).trans (by omega)
  refine t_iast E G 47 (rfl : ro 389 = 47) (by decide) (by decide) rfl (n := 7) rfl (iv_vp b4 (by decide) (by decide)) dX11_puts_41 (fun H locs G => ?_)
  have h37 : v33.toNatClampNeg = Ln z + 1 := by have e3 : v33.toNatClampNeg = v33.toInt.toNat := rfl; have e2 := h12.2; have n2 := iv_nat b13 (by decide); have := l36; omega
  have h38 : Ln zz29 = Ln z := by unfold Ln len; rw [kk31.2.2.2.2.2.2.2.2, h28]
  have h39 : v1.toNatClampNeg = tx zz29 := (tx_of (e2.trans rfl)).trans kk31.2.2.2.2.2.2.2.2.symm
  obtain ⟨zz42, G, oo43, kk44, h45, h40, h41⟩ : ∃ u : TS, mG D A s H locs (wd K ad u) ∧ Ok u ∧ KPU z u ∧ tI u 386 11 = v1 ∧ (tA u 388 = upd (tA z 388) (400 * tx z + Ln z) v22) ∧ (tA u 389 = upd (tA z 389) (tx z) v33) := ⟨_, G, ok_u oo30 47 (rfl : ro 389 = 47) (wr_u (by decide) (iv_mono b35 (by decide) (by decide))) (by decide), KPf.tr kk31 (KPf_len h39 (by rw [h38, h37]; exact Nat.le_succ _)), h32, (sR_o h27 (by decide)), (by rw [sR_row, h28, tx_of (e2.trans rfl)])⟩
  exact RET G ⟨oo43, kk44, (pu_pi hp kk44 h40 h41 h37 (by rw [(dn_p (Or.inl (s_num e19 e23))).1]; exact hm)), (pu_sl kk44 h40 h41 h37), (pu_gd kk44 h40 h41 h37 (fun w => absurd ((s_num e19 e23).symm.trans w) (by decide)) (by rw [(dn_p (Or.inl (s_num e19 e23))).1]; decide) (by rw [(dn_p (Or.inl (s_num e19 e23))).2]; decide))⟩ dX11_puts_42
set_option maxHeartbeats 4000000 in
set_option maxRecDepth 100000 in
theorem v_puts_word (l : Launch) (D : va_G) (K : Nat → ClassId) (ad : Nat → Nat) (z : TS) (o : Ok z) (x2 : Int32) (bx2 : iv 0 10 x2) (hp : PIx z) (hle : Ln z ≤ 399) (hm : Hh z + 1 ≤ (tI z 386 12).toInt) : cV l yX11_puts cX11_puts 3 ({ frames := 0, cells := 0, slots := 0, locals := 0 }) D K ad z [.ref (ad 386), .int 1, .int x2] (fun u => Ok u ∧ KPU z u ∧ (PIx u) ∧ (SLk u = SLk z - 1) ∧ (Gd 1 0 z u)) := by
  refine t_enterV (by decide) (Nat.le_of_ble_eq_true rfl) rfl rfl ?_
  intro p e s m args below meth c A R Q H locs ls E hfr hlo RET G hl
  have E : mE p s m meth c cX11_puts args 3 RX11 D K A := E
  have hl : lv_has ls 3 [(0, .ref (ad 386)), (1, .int 1), (2, .int x2)] := hl
  refine lv_aload_n E.1 E.2.1 dX11_puts_0 rfl (lv_at hl 0 rfl) ?_
  refine t_get E G 11 3 (rfl : ro 386 = 11) (C := RX11) (T := TX11) (N := 37) rfl (by decide) (by decide) (by decide) mw_fl_11_13 (v := .ref (ad 388)) (fvl_o (n := 2) rfl) dX11_puts_1 ?_
  refine lv_sipush (v := 400) E.1 E.2.1 dX11_puts_4 (by decide) ?_
  refine lv_aload_n E.1 E.2.1 dX11_puts_7 rfl (lv_at hl 0 rfl) ?_
  refine t_get E G 11 11 (rfl : ro 386 = 11) (C := RX11) (T := TX11) (N := 37) rfl (by decide) (by decide) (by decide) mw_fl_11_147 (fvl_i rfl) dX11_puts_8 ?_
  refine lv_topi (fun v1 e2 => ?_)
  have b3 : iv 0 6 v1 := by rw [e2]; exact o.i 11 11 (rfl : ro 386 = 11)
  have b4 : iv 0 5 v1 := by rw [(e2.trans rfl)]; exact hp.1
  refine lv_imul E.1 E.2.1 dX11_puts_11 ?_
  refine lv_topi (fun v5 e6 => ?_)
  have b7 : iv 0 2000 v5 := by rw [e6]; exact iv_mulc' b4 400 (by decide) (by decide) (by decide) (by decide) (by decide) (by decide)
  have l8 : v5.toInt = 0 + 400 * v1.toInt := (show v5.toInt = 400 * v1.toInt by rw [e6]; exact ti_cmul 400 (by decide) (by decide) b4 (by decide) (by decide)).trans (by omega)
  refine lv_aload_n E.1 E.2.1 dX11_puts_12 rfl (lv_at hl 0 rfl) ?_
  refine t_get E G 11 4 (rfl : ro 386 = 11) (C := RX11) (T := TX11) (N := 37) rfl (by decide) (by decide) (by decide) mw_fl_11_17 (v := .ref (ad 389)) (fvl_o (n := 3) rfl) dX11_puts_13 ?_
  refine lv_aload_n E.1 E.2.1 dX11_puts_16 rfl (lv_at hl 0 rfl) ?_
  refine t_get E G 11 11 (rfl : ro 386 = 11) (C := RX11) (T := TX11) (N := 37) rfl (by decide) (by decide) (by decide) mw_fl_11_147 (fvl_i rfl) dX11_puts_17 ?_
  refine m_ci v1 e2.symm ?_
  refine t_iald E G 47 (rfl : ro 389 = 47) (by decide) (by decide) rfl (n := 7) rfl (iv_vp b4 (by decide) (by decide)) dX11_puts_20 ?_
  refine lv_topi (fun v9 e10 => ?_)
  have b11 : iv 0 400 v9 := by rw [e10]; exact iv_mono (rd_u o 47 (rfl : ro 389 = 47) (by decide) _) (by decide) (by decide)
  have h12 := pl_iv (e2.trans rfl) e10 b11 hle
  have b13 : iv 0 399 v9 := h12.1
  refine lv_iadd E.1 E.2.1 dX11_puts_21 ?_
  refine lv_topi (fun v14 e15 => ?_)
  have b16 : iv 0 2399 v14 := by rw [e15]; exact iv_add b7 b13 (by decide) (by decide) (by decide) (by decide)
  have l17 : v14.toInt = 0 + 400 * v1.toInt + 1 * v9.toInt := (show v14.toInt = v5.toInt + v9.toInt by rw [e15]; exact ti_addv b7 b13 (by decide) (by decide)).trans (by omega)
  refine lv_iload_n E.1 E.2.1 dX11_puts_22 rfl (lv_at hl 1 rfl) ?_
  refine lv_bipush (v := 16) E.1 E.2.1 dX11_puts_23 (by decide) ?_
  refine lv_iload_n E.1 E.2.1 dX11_puts_25 rfl (lv_at hl 2 rfl) ?_
  refine lv_imul E.1 E.2.1 dX11_puts_26 ?_
  refine lv_topi (fun v18 e19 => ?_)
  have b20 : iv 0 160 v18 := by rw [e19]; exact iv_mulc' bx2 16 (by decide) (by decide) (by decide) (by decide) (by decide) (by decide)
  have l21 : v18.toInt = 0 + 16 * x2.toInt := (show v18.toInt = 16 * x2.toInt by rw [e19]; exact ti_cmul 16 (by decide) (by decide) bx2 (by decide) (by decide)).trans (by omega)
  refine lv_iadd E.1 E.2.1 dX11_puts_27 ?_
  refine lv_topi (fun v22 e23 => ?_)
  have b24 : iv 1 161 v22 := by rw [e23]; exact iv_add (iv_lit (lo := 1) (hi := 1) 1 (by decide) (by decide)) b20 (by decide) (by decide) (by decide) (by decide)
  have l25 : v22.toInt = 1 + 16 * x2.toInt := (show v22.toInt = 1 + v18.toInt by rw [e23]; exact ti_cadd 1 (by decide) b20 (by decide) (by decide)).trans (by omega)
  refine t_iast E G 46 (rfl : ro 388 = 46) (by decide) (by decide) rfl (n := 2400) rfl (iv_vp b16 (by decide) (by decide)) dX11_puts_28 (fun H locs G => ?_)
  have h26 : v14.toNatClampNeg = 400 * tx z + Ln z := by have e1 := tx_of (e2.trans rfl); have e2 := h12.2; have e3 : v14.toNatClampNeg = v14.toInt.toNat := rfl; have n1 := iv_nat b4 (by decide); have n2 := iv_nat b13 (by decide); have := l17; omega
  obtain ⟨zz29, G, oo30, kk31, h32, h27, h28⟩ : ∃ u : TS, mG D A s H locs (wd K ad u) ∧ Ok u ∧ KPU z u ∧ tI u 386 11 = v1 ∧ (tA u 388 = upd (tA z 388) (400 * tx z + Ln z) v22) ∧ (tA u 389 = tA z 389) := ⟨_, G, ok_u o 46 (rfl : ro 388 = 46) (wr_u (by decide) (iv_full _)) (by decide), KPf.tr KPf.rf (KPf_sign h26 hle), e2.symm, (by rw [sR_row, h26]), (sR_o rfl (by decide))⟩
  refine lv_aload_n E.1 E.2.1 dX11_puts_29 rfl (lv_at hl 0 rfl) ?_
  refine t_get E G 11 4 (rfl : ro 386 = 11) (C := RX11) (T := TX11) (N := 37) rfl (by decide) (by decide) (by decide) mw_fl_11_17 (v := .ref (ad 389)) (fvl_o (n := 3) rfl) dX11_puts_30 ?_
  refine lv_aload_n E.1 E.2.1 dX11_puts_33 rfl (lv_at hl 0 rfl) ?_
  refine t_get E G 11 11 (rfl : ro 386 = 11) (C := RX11) (T := TX11) (N := 37) rfl (by decide) (by decide) (by decide) mw_fl_11_147 (fvl_i rfl) dX11_puts_34 ?_
  refine m_ci v1 h32 ?_
  refine lv_dup2_11 E.1 E.2.1 dX11_puts_37 rfl rfl ?_
  refine t_iald E G 47 (rfl : ro 389 = 47) (by decide) (by decide) rfl (n := 7) rfl (iv_vp b4 (by decide) (by decide)) dX11_puts_38 ?_
  refine m_ci v9 (by rw [h28]; exact e10.symm) ?_
  refine lv_iconst (v := 1) E.1 E.2.1 dX11_puts_39 (by decide) ?_
  refine lv_iadd E.1 E.2.1 dX11_puts_40 ?_
  refine lv_topi (fun v33 e34 => ?_)
  have b35 : iv 1 400 v33 := by rw [e34]; exact iv_add b13 (iv_lit (lo := 1) (hi := 1) 1 (by decide) (by decide)) (by decide) (by decide) (by decide) (by decide)
  have l36 : v33.toInt = 1 + 1 * v9.toInt := (show v33.toInt = v9.toInt + 1 by rw [e34]; exact ti_addc 1 (by decide) b13 (by decide) (by decide)).trans (by omega)
  refine t_iast E G 47 (rfl : ro 389 = 47) (by decide) (by decide) rfl (n := 7) rfl (iv_vp b4 (by decide) (by decide)) dX11_puts_41 (fun H locs G => ?_)
  have h37 : v33.toNatClampNeg = Ln z + 1 := by have e3 : v33.toNatClampNeg = v33.toInt.toNat := rfl; have e2 := h12.2; have n2 := iv_nat b13 (by decide); have := l36; omega
  have h38 : Ln zz29 = Ln z := by unfold Ln len; rw [kk31.2.2.2.2.2.2.2.2, h28]
  have h39 : v1.toNatClampNeg = tx zz29 := (tx_of (e2.trans rfl)).trans kk31.2.2.2.2.2.2.2.2.symm
  obtain ⟨zz42, G, oo43, kk44, h45, h40, h41⟩ : ∃ u : TS, mG D A s H locs (wd K ad u) ∧ Ok u ∧ KPU z u ∧ tI u 386 11 = v1 ∧ (tA u 388 = upd (tA z 388) (400 * tx z + Ln z) v22) ∧ (tA u 389 = upd (tA z 389) (tx z) v33) := ⟨_, G, ok_u oo30 47 (rfl : ro 389 = 47) (wr_u (by decide) (iv_mono b35 (by decide) (by decide))) (by decide), KPf.tr kk31 (KPf_len h39 (by rw [h38, h37]; exact Nat.le_succ _)), h32, (sR_o h27 (by decide)), (by rw [sR_row, h28, tx_of (e2.trans rfl)])⟩
  exact RET G ⟨oo43, kk44, (pu_pi hp kk44 h40 h41 h37 (by rw [(dn_p (Or.inr (s_word bx2 e19 e23).1)).1]; exact hm)), (pu_sl kk44 h40 h41 h37), (pu_gd kk44 h40 h41 h37 (fun _ => (s_word bx2 e19 e23).2) (by rw [(dn_p (Or.inr (s_word bx2 e19 e23).1)).1]; decide) (by rw [(dn_p (Or.inr (s_word bx2 e19 e23).1)).2]; decide))⟩ dX11_puts_42
set_option maxHeartbeats 4000000 in
set_option maxRecDepth 100000 in
theorem v_puts_not (l : Launch) (D : va_G) (K : Nat → ClassId) (ad : Nat → Nat) (z : TS) (o : Ok z) (x1 : Int32) (bx1 : iv 11 11 x1) (hp : PIx z) (hle : Ln z ≤ 399) : cV l yX11_puts cX11_puts 3 ({ frames := 0, cells := 0, slots := 0, locals := 0 }) D K ad z [.ref (ad 386), .int x1, .int 0] (fun u => Ok u ∧ KPU z u ∧ (PIx u) ∧ (SLk u = SLk z - 1) ∧ (Gd 0 1 z u)) := by
  refine t_enterV (by decide) (Nat.le_of_ble_eq_true rfl) rfl rfl ?_
  intro p e s m args below meth c A R Q H locs ls E hfr hlo RET G hl
  have E : mE p s m meth c cX11_puts args 3 RX11 D K A := E
  have hl : lv_has ls 3 [(0, .ref (ad 386)), (1, .int x1), (2, .int 0)] := hl
  refine lv_aload_n E.1 E.2.1 dX11_puts_0 rfl (lv_at hl 0 rfl) ?_
  refine t_get E G 11 3 (rfl : ro 386 = 11) (C := RX11) (T := TX11) (N := 37) rfl (by decide) (by decide) (by decide) mw_fl_11_13 (v := .ref (ad 388)) (fvl_o (n := 2) rfl) dX11_puts_1 ?_
  refine lv_sipush (v := 400) E.1 E.2.1 dX11_puts_4 (by decide) ?_
  refine lv_aload_n E.1 E.2.1 dX11_puts_7 rfl (lv_at hl 0 rfl) ?_
  refine t_get E G 11 11 (rfl : ro 386 = 11) (C := RX11) (T := TX11) (N := 37) rfl (by decide) (by decide) (by decide) mw_fl_11_147 (fvl_i rfl) dX11_puts_8 ?_
  refine lv_topi (fun v1 e2 => ?_)
  have b3 : iv 0 6 v1 := by rw [e2]; exact o.i 11 11 (rfl : ro 386 = 11)
  have b4 : iv 0 5 v1 := by rw [(e2.trans rfl)]; exact hp.1
  refine lv_imul E.1 E.2.1 dX11_puts_11 ?_
  refine lv_topi (fun v5 e6 => ?_)
  have b7 : iv 0 2000 v5 := by rw [e6]; exact iv_mulc' b4 400 (by decide) (by decide) (by decide) (by decide) (by decide) (by decide)
  have l8 : v5.toInt = 0 + 400 * v1.toInt := (show v5.toInt = 400 * v1.toInt by rw [e6]; exact ti_cmul 400 (by decide) (by decide) b4 (by decide) (by decide)).trans (by omega)
  refine lv_aload_n E.1 E.2.1 dX11_puts_12 rfl (lv_at hl 0 rfl) ?_
  refine t_get E G 11 4 (rfl : ro 386 = 11) (C := RX11) (T := TX11) (N := 37) rfl (by decide) (by decide) (by decide) mw_fl_11_17 (v := .ref (ad 389)) (fvl_o (n := 3) rfl) dX11_puts_13 ?_
  refine lv_aload_n E.1 E.2.1 dX11_puts_16 rfl (lv_at hl 0 rfl) ?_
  refine t_get E G 11 11 (rfl : ro 386 = 11) (C := RX11) (T := TX11) (N := 37) rfl (by decide) (by decide) (by decide) mw_fl_11_147 (fvl_i rfl) dX11_puts_17 ?_
  refine m_ci v1 e2.symm ?_
  refine t_iald E G 47 (rfl : ro 389 = 47) (by decide) (by decide) rfl (n := 7) rfl (iv_vp b4 (by decide) (by decide)) dX11_puts_20 ?_
  refine lv_topi (fun v9 e10 => ?_)
  have b11 : iv 0 400 v9 := by rw [e10]; exact iv_mono (rd_u o 47 (rfl : ro 389 = 47) (by decide) _) (by decide) (by decide)
  have h12 := pl_iv (e2.trans rfl) e10 b11 hle
  have b13 : iv 0 399 v9 := h12.1
  refine lv_iadd E.1 E.2.1 dX11_puts_21 ?_
  refine lv_topi (fun v14 e15 => ?_)
  have b16 : iv 0 2399 v14 := by rw [e15]; exact iv_add b7 b13 (by decide) (by decide) (by decide) (by decide)
  have l17 : v14.toInt = 0 + 400 * v1.toInt + 1 * v9.toInt := (show v14.toInt = v5.toInt + v9.toInt by rw [e15]; exact ti_addv b7 b13 (by decide) (by decide)).trans (by omega)
  refine lv_iload_n E.1 E.2.1 dX11_puts_22 rfl (lv_at hl 1 rfl) ?_
  refine lv_bipush (v := 16) E.1 E.2.1 dX11_puts_23 (by decide) ?_
  refine lv_iload_n E.1 E.2.1 dX11_puts_25 rfl (lv_at hl 2 rfl) ?_
  refine lv_imul E.1 E.2.1 dX11_puts_26 ?_
  refine m_ci 0 (by decide) ?_
  refine lv_iadd E.1 E.2.1 dX11_puts_27 ?_
  refine lv_topi (fun v18 e19 => ?_)
  have b20 : iv 11 11 v18 := by rw [e19]; exact iv_add bx1 (iv_lit (lo := 0) (hi := 0) 0 (by decide) (by decide)) (by decide) (by decide) (by decide) (by decide)
  have l21 : v18.toInt = 0 + 1 * x1.toInt := (show v18.toInt = x1.toInt + 0 by rw [e19]; exact ti_addc 0 (by decide) bx1 (by decide) (by decide)).trans (by omega)
  refine t_iast E G 46 (rfl : ro 388 = 46) (by decide) (by decide) rfl (n := 2400) rfl (iv_vp b16 (by decide) (by decide)) dX11_puts_28 (fun H locs G => ?_)
  have h22 : v14.toNatClampNeg = 400 * tx z + Ln z := by have e1 := tx_of (e2.trans rfl); have e2 := h12.2; have e3 : v14.toNatClampNeg = v14.toInt.toNat := rfl; have n1 := iv_nat b4 (by decide); have n2 := iv_nat b13 (by decide); have := l17; omega
  obtain ⟨zz25, G, oo26, kk27, h28, h23, h24⟩ : ∃ u : TS, mG D A s H locs (wd K ad u) ∧ Ok u ∧ KPU z u ∧ tI u 386 11 = v1 ∧ (tA u 388 = upd (tA z 388) (400 * tx z + Ln z) v18) ∧ (tA u 389 = tA z 389) := ⟨_, G, ok_u o 46 (rfl : ro 388 = 46) (wr_u (by decide) (iv_full _)) (by decide), KPf.tr KPf.rf (KPf_sign h22 hle), e2.symm, (by rw [sR_row, h22]), (sR_o rfl (by decide))⟩
  refine lv_aload_n E.1 E.2.1 dX11_puts_29 rfl (lv_at hl 0 rfl) ?_
  refine t_get E G 11 4 (rfl : ro 386 = 11) (C := RX11) (T := TX11) (N := 37) rfl (by decide) (by decide) (by decide) mw_fl_11_17 (v := .ref (ad 389)) (fvl_o (n := 3) rfl) dX11_puts_30 ?_
  refine lv_aload_n E.1 E.2.1 dX11_puts_33 rfl (lv_at hl 0 rfl) ?_
  refine t_get E G 11 11 (rfl : ro 386 = 11) (C := RX11) (T := TX11) (N := 37) rfl (by decide) (by decide) (by decide) mw_fl_11_147 (fvl_i rfl) dX11_puts_34 ?_
  refine m_ci v1 h28 ?_
  refine lv_dup2_11 E.1 E.2.1 dX11_puts_37 rfl rfl ?_
  refine t_iald E G 47 (rfl : ro 389 = 47) (by decide) (by decide) rfl (n := 7) rfl (iv_vp b4 (by decide) (by decide)) dX11_puts_38 ?_
  refine m_ci v9 (by rw [h24]; exact e10.symm) ?_
  refine lv_iconst (v := 1) E.1 E.2.1 dX11_puts_39 (by decide) ?_
  refine lv_iadd E.1 E.2.1 dX11_puts_40 ?_
  refine lv_topi (fun v29 e30 => ?_)
  have b31 : iv 1 400 v29 := by rw [e30]; exact iv_add b13 (iv_lit (lo := 1) (hi := 1) 1 (by decide) (by decide)) (by decide) (by decide) (by decide) (by decide)
  have l32 : v29.toInt = 1 + 1 * v9.toInt := (show v29.toInt = v9.toInt + 1 by rw [e30]; exact ti_addc 1 (by decide) b13 (by decide) (by decide)).trans (by omega)
  refine t_iast E G 47 (rfl : ro 389 = 47) (by decide) (by decide) rfl (n := 7) rfl (iv_vp b4 (by decide) (by decide)) dX11_puts_41 (fun H locs G => ?_)
  have h33 : v29.toNatClampNeg = Ln z + 1 := by have e3 : v29.toNatClampNeg = v29.toInt.toNat := rfl; have e2 := h12.2; have n2 := iv_nat b13 (by decide); have := l32; omega
  have h34 : Ln zz25 = Ln z := by unfold Ln len; rw [kk27.2.2.2.2.2.2.2.2, h24]
  have h35 : v1.toNatClampNeg = tx zz25 := (tx_of (e2.trans rfl)).trans kk27.2.2.2.2.2.2.2.2.symm
  obtain ⟨zz38, G, oo39, kk40, h41, h36, h37⟩ : ∃ u : TS, mG D A s H locs (wd K ad u) ∧ Ok u ∧ KPU z u ∧ tI u 386 11 = v1 ∧ (tA u 388 = upd (tA z 388) (400 * tx z + Ln z) v18) ∧ (tA u 389 = upd (tA z 389) (tx z) v29) := ⟨_, G, ok_u oo26 47 (rfl : ro 389 = 47) (wr_u (by decide) (iv_mono b31 (by decide) (by decide))) (by decide), KPf.tr kk27 (KPf_len h35 (by rw [h34, h33]; exact Nat.le_succ _)), h28, (sR_o h23 (by decide)), (by rw [sR_row, h24, tx_of (e2.trans rfl)])⟩
  exact RET G ⟨oo39, kk40, (pu_pi hp kk40 h36 h37 h33 (by have q := (dl_n ((s_op (iv_mono bx1 (by decide) (by decide)) e19).trans (iv_one bx1 (by decide)))).1; have := hp.2.2.1; omega)), (pu_sl kk40 h36 h37 h33), (pu_gd kk40 h36 h37 h33 (fun w => absurd ((s_op (iv_mono bx1 (by decide) (by decide)) e19).symm.trans w) (ivne2 bx1 (iv_lit (lo := 1) (hi := 1) 1 (by decide) (by decide)) (by decide))) (by rw [(dl_n ((s_op (iv_mono bx1 (by decide) (by decide)) e19).trans (iv_one bx1 (by decide)))).1]; decide) (by rw [(dl_n ((s_op (iv_mono bx1 (by decide) (by decide)) e19).trans (iv_one bx1 (by decide)))).2]; decide))⟩ dX11_puts_42
set_option maxHeartbeats 4000000 in
set_option maxRecDepth 100000 in
theorem v_puts_op (l : Launch) (D : va_G) (K : Nat → ClassId) (ad : Nat → Nat) (z : TS) (o : Ok z) (x1 : Int32) (bx1 : iv 2 14 x1) (hp : PIx z) (hle : Ln z ≤ 399) (h11 : ¬ x1 = 11) : cV l yX11_puts cX11_puts 3 ({ frames := 0, cells := 0, slots := 0, locals := 0 }) D K ad z [.ref (ad 386), .int x1, .int 0] (fun u => Ok u ∧ KPU z u ∧ (PIx u) ∧ (SLk u = SLk z - 1) ∧ (Gd (-1) 2 z u)) := by
  refine t_enterV (by decide) (Nat.le_of_ble_eq_true rfl) rfl rfl ?_
  intro p e s m args below meth c A R Q H locs ls E hfr hlo RET G hl
  have E : mE p s m meth c cX11_puts args 3 RX11 D K A := E
  have hl : lv_has ls 3 [(0, .ref (ad 386)), (1, .int x1), (2, .int 0)] := hl
  refine lv_aload_n E.1 E.2.1 dX11_puts_0 rfl (lv_at hl 0 rfl) ?_
  refine t_get E G 11 3 (rfl : ro 386 = 11) (C := RX11) (T := TX11) (N := 37) rfl (by decide) (by decide) (by decide) mw_fl_11_13 (v := .ref (ad 388)) (fvl_o (n := 2) rfl) dX11_puts_1 ?_
  refine lv_sipush (v := 400) E.1 E.2.1 dX11_puts_4 (by decide) ?_
  refine lv_aload_n E.1 E.2.1 dX11_puts_7 rfl (lv_at hl 0 rfl) ?_
  refine t_get E G 11 11 (rfl : ro 386 = 11) (C := RX11) (T := TX11) (N := 37) rfl (by decide) (by decide) (by decide) mw_fl_11_147 (fvl_i rfl) dX11_puts_8 ?_
  refine lv_topi (fun v1 e2 => ?_)
  have b3 : iv 0 6 v1 := by rw [e2]; exact o.i 11 11 (rfl : ro 386 = 11)
  have b4 : iv 0 5 v1 := by rw [(e2.trans rfl)]; exact hp.1
  refine lv_imul E.1 E.2.1 dX11_puts_11 ?_
  refine lv_topi (fun v5 e6 => ?_)
  have b7 : iv 0 2000 v5 := by rw [e6]; exact iv_mulc' b4 400 (by decide) (by decide) (by decide) (by decide) (by decide) (by decide)
  have l8 : v5.toInt = 0 + 400 * v1.toInt := (show v5.toInt = 400 * v1.toInt by rw [e6]; exact ti_cmul 400 (by decide) (by decide) b4 (by decide) (by decide)).trans (by omega)
  refine lv_aload_n E.1 E.2.1 dX11_puts_12 rfl (lv_at hl 0 rfl) ?_
  refine t_get E G 11 4 (rfl : ro 386 = 11) (C := RX11) (T := TX11) (N := 37) rfl (by decide) (by decide) (by decide) mw_fl_11_17 (v := .ref (ad 389)) (fvl_o (n := 3) rfl) dX11_puts_13 ?_
  refine lv_aload_n E.1 E.2.1 dX11_puts_16 rfl (lv_at hl 0 rfl) ?_
  refine t_get E G 11 11 (rfl : ro 386 = 11) (C := RX11) (T := TX11) (N := 37) rfl (by decide) (by decide) (by decide) mw_fl_11_147 (fvl_i rfl) dX11_puts_17 ?_
  refine m_ci v1 e2.symm ?_
  refine t_iald E G 47 (rfl : ro 389 = 47) (by decide) (by decide) rfl (n := 7) rfl (iv_vp b4 (by decide) (by decide)) dX11_puts_20 ?_
  refine lv_topi (fun v9 e10 => ?_)
  have b11 : iv 0 400 v9 := by rw [e10]; exact iv_mono (rd_u o 47 (rfl : ro 389 = 47) (by decide) _) (by decide) (by decide)
  have h12 := pl_iv (e2.trans rfl) e10 b11 hle
  have b13 : iv 0 399 v9 := h12.1
  refine lv_iadd E.1 E.2.1 dX11_puts_21 ?_
  refine lv_topi (fun v14 e15 => ?_)
  have b16 : iv 0 2399 v14 := by rw [e15]; exact iv_add b7 b13 (by decide) (by decide) (by decide) (by decide)
  have l17 : v14.toInt = 0 + 400 * v1.toInt + 1 * v9.toInt := (show v14.toInt = v5.toInt + v9.toInt by rw [e15]; exact ti_addv b7 b13 (by decide) (by decide)).trans (by omega)
  refine lv_iload_n E.1 E.2.1 dX11_puts_22 rfl (lv_at hl 1 rfl) ?_
  refine lv_bipush (v := 16) E.1 E.2.1 dX11_puts_23 (by decide) ?_
  refine lv_iload_n E.1 E.2.1 dX11_puts_25 rfl (lv_at hl 2 rfl) ?_
  refine lv_imul E.1 E.2.1 dX11_puts_26 ?_
  refine m_ci 0 (by decide) ?_
  refine lv_iadd E.1 E.2.1 dX11_puts_27 ?_
  refine lv_topi (fun v18 e19 => ?_)
  have b20 : iv 2 14 v18 := by rw [e19]; exact iv_add bx1 (iv_lit (lo := 0) (hi := 0) 0 (by decide) (by decide)) (by decide) (by decide) (by decide) (by decide)
  have l21 : v18.toInt = 0 + 1 * x1.toInt := (show v18.toInt = x1.toInt + 0 by rw [e19]; exact ti_addc 0 (by decide) bx1 (by decide) (by decide)).trans (by omega)
  refine t_iast E G 46 (rfl : ro 388 = 46) (by decide) (by decide) rfl (n := 2400) rfl (iv_vp b16 (by decide) (by decide)) dX11_puts_28 (fun H locs G => ?_)
  have h22 : v14.toNatClampNeg = 400 * tx z + Ln z := by have e1 := tx_of (e2.trans rfl); have e2 := h12.2; have e3 : v14.toNatClampNeg = v14.toInt.toNat := rfl; have n1 := iv_nat b4 (by decide); have n2 := iv_nat b13 (by decide); have := l17; omega
  obtain ⟨zz25, G, oo26, kk27, h28, h23, h24⟩ : ∃ u : TS, mG D A s H locs (wd K ad u) ∧ Ok u ∧ KPU z u ∧ tI u 386 11 = v1 ∧ (tA u 388 = upd (tA z 388) (400 * tx z + Ln z) v18) ∧ (tA u 389 = tA z 389) := ⟨_, G, ok_u o 46 (rfl : ro 388 = 46) (wr_u (by decide) (iv_full _)) (by decide), KPf.tr KPf.rf (KPf_sign h22 hle), e2.symm, (by rw [sR_row, h22]), (sR_o rfl (by decide))⟩
  refine lv_aload_n E.1 E.2.1 dX11_puts_29 rfl (lv_at hl 0 rfl) ?_
  refine t_get E G 11 4 (rfl : ro 386 = 11) (C := RX11) (T := TX11) (N := 37) rfl (by decide) (by decide) (by decide) mw_fl_11_17 (v := .ref (ad 389)) (fvl_o (n := 3) rfl) dX11_puts_30 ?_
  refine lv_aload_n E.1 E.2.1 dX11_puts_33 rfl (lv_at hl 0 rfl) ?_
  refine t_get E G 11 11 (rfl : ro 386 = 11) (C := RX11) (T := TX11) (N := 37) rfl (by decide) (by decide) (by decide) mw_fl_11_147 (fvl_i rfl) dX11_puts_34 ?_
  refine m_ci v1 h28 ?_
  refine lv_dup2_11 E.1 E.2.1 dX11_puts_37 rfl rfl ?_
  refine t_iald E G 47 (rfl : ro 389 = 47) (by decide) (by decide) rfl (n := 7) rfl (iv_vp b4 (by decide) (by decide)) dX11_puts_38 ?_
  refine m_ci v9 (by rw [h24]; exact e10.symm) ?_
  refine lv_iconst (v := 1) E.1 E.2.1 dX11_puts_39 (by decide) ?_
  refine lv_iadd E.1 E.2.1 dX11_puts_40 ?_
  refine lv_topi (fun v29 e30 => ?_)
  have b31 : iv 1 400 v29 := by rw [e30]; exact iv_add b13 (iv_lit (lo := 1) (hi := 1) 1 (by decide) (by decide)) (by decide) (by decide) (by decide) (by decide)
  have l32 : v29.toInt = 1 + 1 * v9.toInt := (show v29.toInt = v9.toInt + 1 by rw [e30]; exact ti_addc 1 (by decide) b13 (by decide) (by decide)).trans (by omega)
  refine t_iast E G 47 (rfl : ro 389 = 47) (by decide) (by decide) rfl (n := 7) rfl (iv_vp b4 (by decide) (by decide)) dX11_puts_41 (fun H locs G => ?_)
  have h33 : v29.toNatClampNeg = Ln z + 1 := by have e3 : v29.toNatClampNeg = v29.toInt.toNat := rfl; have e2 := h12.2; have n2 := iv_nat b13 (by decide); have := l32; omega
  have h34 : Ln zz25 = Ln z := by unfold Ln len; rw [kk27.2.2.2.2.2.2.2.2, h24]
  have h35 : v1.toNatClampNeg = tx zz25 := (tx_of (e2.trans rfl)).trans kk27.2.2.2.2.2.2.2.2.symm
  obtain ⟨zz38, G, oo39, kk40, h41, h36, h37⟩ : ∃ u : TS, mG D A s H locs (wd K ad u) ∧ Ok u ∧ KPU z u ∧ tI u 386 11 = v1 ∧ (tA u 388 = upd (tA z 388) (400 * tx z + Ln z) v18) ∧ (tA u 389 = upd (tA z 389) (tx z) v29) := ⟨_, G, ok_u oo26 47 (rfl : ro 389 = 47) (wr_u (by decide) (iv_mono b31 (by decide) (by decide))) (by decide), KPf.tr kk27 (KPf_len h35 (by rw [h34, h33]; exact Nat.le_succ _)), h28, (sR_o h23 (by decide)), (by rw [sR_row, h24, tx_of (e2.trans rfl)])⟩
  exact RET G ⟨oo39, kk40, (pu_pi hp kk40 h36 h37 h33 (by have q := (dl_b (fun w => (ivne2 bx1 (iv_lit (lo := 0) (hi := 0) 0 (by decide) (by decide)) (by decide)) ((s_op (iv_mono bx1 (by decide) (by decide)) e19).symm.trans w)) (fun w => (ivne2 bx1 (iv_lit (lo := 1) (hi := 1) 1 (by decide) (by decide)) (by decide)) ((s_op (iv_mono bx1 (by decide) (by decide)) e19).symm.trans w)) (fun w => h11 ((s_op (iv_mono bx1 (by decide) (by decide)) e19).symm.trans w))).1; have := hp.2.2.1; omega)), (pu_sl kk40 h36 h37 h33), (pu_gd kk40 h36 h37 h33 (fun w => absurd ((s_op (iv_mono bx1 (by decide) (by decide)) e19).symm.trans w) (ivne2 bx1 (iv_lit (lo := 1) (hi := 1) 1 (by decide) (by decide)) (by decide))) (by rw [(dl_b (fun w => (ivne2 bx1 (iv_lit (lo := 0) (hi := 0) 0 (by decide) (by decide)) (by decide)) ((s_op (iv_mono bx1 (by decide) (by decide)) e19).symm.trans w)) (fun w => (ivne2 bx1 (iv_lit (lo := 1) (hi := 1) 1 (by decide) (by decide)) (by decide)) ((s_op (iv_mono bx1 (by decide) (by decide)) e19).symm.trans w)) (fun w => h11 ((s_op (iv_mono bx1 (by decide) (by decide)) e19).symm.trans w))).1]; decide) (by rw [(dl_b (fun w => (ivne2 bx1 (iv_lit (lo := 0) (hi := 0) 0 (by decide) (by decide)) (by decide)) ((s_op (iv_mono bx1 (by decide) (by decide)) e19).symm.trans w)) (fun w => (ivne2 bx1 (iv_lit (lo := 1) (hi := 1) 1 (by decide) (by decide)) (by decide)) ((s_op (iv_mono bx1 (by decide) (by decide)) e19).symm.trans w)) (fun w => h11 ((s_op (iv_mono bx1 (by decide) (by decide)) e19).symm.trans w))).2]; decide))⟩ dX11_puts_42
