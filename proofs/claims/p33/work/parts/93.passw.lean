theorem dX11_passWord_0 : decode cX11_passWord 0 = .ok (.aload_n 0, 1) := by decide +kernel
theorem dX11_passWord_1 : decode cX11_passWord 1 = .ok (.aload_n 0, 1) := by decide +kernel
theorem dX11_passWord_2 : decode cX11_passWord 2 = .ok (.getfield 93, 3) := by decide +kernel
theorem dX11_passWord_5 : decode cX11_passWord 5 = .ok (.invokevirtual 100, 3) := by decide +kernel
theorem dX11_passWord_8 : decode cX11_passWord 8 = .ok (.ifCond .eq 16, 3) := by decide +kernel
theorem dX11_passWord_11 : decode cX11_passWord 11 = .ok (.aload_n 0, 1) := by decide +kernel
theorem dX11_passWord_12 : decode cX11_passWord 12 = .ok (.dup, 1) := by decide +kernel
theorem dX11_passWord_13 : decode cX11_passWord 13 = .ok (.getfield 93, 3) := by decide +kernel
theorem dX11_passWord_16 : decode cX11_passWord 16 = .ok (.iconst 1, 1) := by decide +kernel
theorem dX11_passWord_17 : decode cX11_passWord 17 = .ok (.iadd, 1) := by decide +kernel
theorem dX11_passWord_18 : decode cX11_passWord 18 = .ok (.putfield 93, 3) := by decide +kernel
theorem dX11_passWord_21 : decode cX11_passWord 21 = .ok (.goto (-21), 3) := by decide +kernel
theorem dX11_passWord_24 : decode cX11_passWord 24 = .ok (.return_, 1) := by decide +kernel
theorem pw_end {z zz : TS} {a : Int32} (h : zz = z ∨ (tI z 386 8).toInt + 1 ≤ (tI zz 386 8).toInt) (hn : ¬ CHx 97 122 zz a) (e : a = tI zz 386 8) : LTx z → (tI z 386 8).toInt + 1 ≤ (tI zz 386 8).toInt := by
  intro q
  rcases h with h | h
  · subst h
    rw [e] at hn
    exact absurd q hn
  · exact h
set_option maxHeartbeats 4000000 in
set_option maxRecDepth 100000 in
theorem v_passWord (l : Launch) (D : va_G) (K : Nat → ClassId) (ad : Nat → Nat) (z : TS) (o : Ok z) (hn : NXx z) : cV l yX11_passWord cX11_passWord 1 ({ frames := 1, cells := 0, slots := 0, locals := 21 }) D K ad z [.ref (ad 386)] (fun u => Ok u ∧ KN8 z u ∧ (Scx z u) ∧ (LTx z → (tI z 386 8).toInt + 1 ≤ (tI u 386 8).toInt)) := by
  have sc0 : Scx z z := Scx.rf hn
  refine t_enterV (by decide) (Nat.le_of_ble_eq_true rfl) rfl rfl ?_
  intro p e s m args below meth c A R Q H locs ls E hfr hlo RET G hl
  have E : mE p s m meth c cX11_passWord args 1 RX11 D K A := E
  have hl : lv_has ls 1 [(0, .ref (ad 386))] := hl
  have LOOP0 : ∀ n : Nat, ∀ (zz1 : TS) (H : Heap) (locs : List Loc) (ls : Array Slot), mG D A s H locs (wd K ad zz1) → Ok zz1 → KN8 z zz1 → Scx z zz1 → (zz1 = z ∨ (tI z 386 8).toInt + 1 ≤ (tI zz1 386 8).toInt) → 400 < (tI zz1 386 8).toInt + (n : Int) → lv_has ls 1 [(0, .ref (ad 386))] → W p l e R s m args below meth c H locs 0 0 Q (F0 m 0 ls []) := by
    intro n
    induction n with
    | zero =>
      intro zz1 H locs ls G oo2 kk3 h5 h6 m4 hl
      exact absurd m4 (by have := (oo2.i (j := 386) 11 8 rfl).2; have e : ihi 11 8 = 400 := (by decide); omega)
    | succ n ih0 =>
      intro zz1 H locs ls G oo2 kk3 h5 h6 m4 hl
      refine lv_aload_n E.1 E.2.1 dX11_passWord_0 rfl (lv_at hl 0 rfl) ?_
      refine lv_aload_n E.1 E.2.1 dX11_passWord_1 rfl (lv_at hl 0 rfl) ?_
      refine t_get E G 11 8 (rfl : ro 386 = 11) (C := RX11) (T := TX11) (N := 37) rfl (by decide) (by decide) (by decide) mw_fl_11_93 (fvl_i rfl) dX11_passWord_2 ?_
      refine lv_topi (fun v7 e8 => ?_)
      have b9 : iv 0 400 v7 := by rw [e8]; exact oo2.i 11 8 (rfl : ro 386 = 11)
      refine t_vi E G hl (v_isLetter l D K ad zz1 oo2 v7 (iv_mono b9 (by decide) (by decide))) 11 (rfl : ro 386 = 11) (by decide) rfl rfl 1 rfl mw_code_X11_isLetter mw_ini_11 mw_ml_11_100 mw_inst_X11_isLetter mw_sel_X11_isLetter hd_X11_isLetter ⟨Nat.le_trans (by decide) hfr, Nat.le_trans (by decide) hlo⟩ rfl rfl rfl (Nat.le_of_ble_eq_true rfl) dX11_passWord_5 (fun r11 zz10 H locs hp12 G => ?_)
      obtain ⟨hz16, b13, h14, h15⟩ := hp12
      rw [hz16] at G
      refine lv_if_eq (tgt := 24) E.1 E.2.1 dX11_passWord_8 (by decide) (fun c17 => ?_) (fun c17 => ?_)
      · skip
        have b18 : iv 0 0 r11 := iv_eq c17 (iv_lit (lo := 0) (hi := 0) 0 (by decide) (by decide))
        exact RET G ⟨oo2, kk3, h5, (pw_end h6 (h15 c17) e8)⟩ dX11_passWord_24
      · skip
        have b19 : iv 1 1 r11 := ne_lo c17 b13 (by decide) (by decide)
        have b20 : iv 0 399 v7 := ⟨b9.1, by have h := (h14 c17).1; have b := (oo2.i (j := 386) 11 1 rfl).2; have e : ihi 11 1 = 400 := (by decide); omega⟩
        refine lv_aload_n E.1 E.2.1 dX11_passWord_11 rfl (lv_at hl 0 rfl) ?_
        refine lv_dup E.1 E.2.1 dX11_passWord_12 rfl ?_
        refine t_get E G 11 8 (rfl : ro 386 = 11) (C := RX11) (T := TX11) (N := 37) rfl (by decide) (by decide) (by decide) mw_fl_11_93 (fvl_i rfl) dX11_passWord_13 ?_
        refine m_ci v7 e8.symm ?_
        refine lv_iconst (v := 1) E.1 E.2.1 dX11_passWord_16 (by decide) ?_
        refine lv_iadd E.1 E.2.1 dX11_passWord_17 ?_
        refine lv_topi (fun v21 e22 => ?_)
        have b23 : iv 1 400 v21 := by rw [e22]; exact iv_add b20 (iv_lit (lo := 1) (hi := 1) 1 (by decide) (by decide)) (by decide) (by decide) (by decide) (by decide)
        have l24 : v21.toInt = 1 + 1 * v7.toInt := (show v21.toInt = v7.toInt + 1 by rw [e22]; exact ti_addc 1 (by decide) b20 (by decide) (by decide)).trans (by omega)
        refine t_puti E G 11 8 (rfl : ro 386 = 11) (C := RX11) (T := TX11) (N := 37) rfl (by decide) (by decide) (by decide) rfl rfl mw_fl_11_93 rfl dX11_passWord_18 (fun H locs G => ?_)
        obtain ⟨zz25, G, oo26, kk27, h28, h29⟩ : ∃ u : TS, mG D A s H locs (wd K ad u) ∧ Ok u ∧ KN8 z u ∧ tI u 386 1 = (tI zz1 386 1) ∧ tI u 386 8 = v21 := ⟨_, G, ok_i oo2 11 (rfl : ro 386 = 11) (iv_mono b23 (by decide) (by decide)) (by decide), KF.tr kk3 (KF_i 11 (rfl : ro 386 = 11) (by decide)), (sI_k rfl (by decide)), sI_self⟩
        refine lv_goto (tgt := 0) E.1 E.2.1 dX11_passWord_21 (by decide) ?_
        exact ih0 zz25 H locs ls G oo26 kk27 (Scx.tr h5 (up_nx e8 rfl (by have h := (h14 c17).1; exact h) (l24.trans (by omega)) h29 h28).1) (Or.inr (by have h := (up_nx e8 rfl (by have h := (h14 c17).1; exact h) (l24.trans (by omega)) h29 h28); have h2 := h5; have h3 := h2.2; have h4 := h.2; omega)) (by have q := congrArg Int32.toInt h29; have q2 := congrArg Int32.toInt e8; have := l24; have := m4; omega) (lv_sub hl [0] rfl)
  exact LOOP0 401 z H locs ls G o KF.rf sc0 (Or.inl rfl) (by have := (o.i (j := 386) 11 8 rfl).1; have e : ilo 11 8 = 0 := (by decide); omega) (lv_sub hl [0] rfl)
