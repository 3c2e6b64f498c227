theorem wf_l0 {z : TS} (wf : WFc z) {t : Nat} {i v : Int32} (hi : i.toNatClampNeg = t) (hc : (tA z 391 t).toInt = 0) : WFc (setR z 389 (upd (tA z 389) i.toNatClampNeg v)) := by
  intro t' ht' c' hc'
  rw [sR_o rfl (by decide)] at hc'
  by_cases e : t' = t
  · rw [e, hc] at hc'; omega
  · have q := wf t' ht' c' hc'
    unfold clok cle len sgn at q ⊢
    rw [sR_o rfl (by decide), sR_o rfl (by decide), sR_row, hi]
    unfold upd
    rw [if_neg e]
    exact q
theorem wf_c0 {z : TS} (wf : WFc z) {i : Int32} : WFc (setR z 391 (upd (tA z 391) i.toNatClampNeg 0)) := by
  intro t' ht' c' hc'
  rw [sR_row] at hc'
  unfold upd at hc'
  by_cases e : t' = i.toNatClampNeg
  · rw [if_pos e] at hc'
    have e0 : (0 : Int32).toInt = 0 := by decide
    omega
  · rw [if_neg e] at hc'
    have q := wf t' ht' c' hc'
    unfold clok cle len sgn at q ⊢
    rw [sR_o rfl (by decide), sR_o rfl (by decide), sR_o rfl (by decide)]
    exact q
theorem pi_0 {z : TS} (o : Ok z) (ht : iv 0 5 (tI z 386 11)) (h8 : tI z 386 8 = 0) (h12 : tI z 386 12 = 0) (hL : Ln z = 0) : PIx z ∧ 0 ≤ SLk z ∧ 0 ≤ Hh z := by
  have b := (o.i (j := 386) 11 1 rfl).1
  have e : ilo 11 1 = 0 := by decide
  have e0 : (0 : Int32).toInt = 0 := by decide
  have hh : Hh z = 0 := by unfold Hh; rw [hL]; rfl
  refine ⟨⟨ht, by unfold NXx; rw [h8]; omega, by rw [hh, h12]; omega, by rw [h12]; omega, fun i hi => ?_⟩, by unfold SLk; rw [h8, hL]; omega, by omega⟩
  have : i = 0 := by omega
  subst this
  show (0 : Int) ≤ 60
  decide
theorem ln_0 {z : TS} {i : Int32} (hi : i.toNatClampNeg = tx z) : Ln (setR z 389 (upd (tA z 389) i.toNatClampNeg 0)) = 0 := by
  have t : tx (setR z 389 (upd (tA z 389) i.toNatClampNeg 0)) = tx z := rfl
  unfold Ln len
  rw [t, sR_row, hi]
  unfold upd
  rw [if_pos rfl]
  rfl
theorem c0_of {z : TS} {i : Int32} (hi : i.toNatClampNeg = tx z) : (tA (setR z 391 (upd (tA z 391) i.toNatClampNeg 0)) 391 (tx (setR z 391 (upd (tA z 391) i.toNatClampNeg 0)))).toInt = 0 := by
  have t : tx (setR z 391 (upd (tA z 391) i.toNatClampNeg 0)) = tx z := rfl
  rw [t, sR_row, hi]
  unfold upd
  rw [if_pos rfl]
  decide
def fRr (r k : Nat) : Bool := !(r == 11 && (k == 1 || (k == 8 || (k == 9 || (k == 10 || (k == 12 || (k == 13 || (k == 14 || k == 16))))))))
def fRu (r k : Nat) : Bool := !(r == 11 && (k == 1 || (k == 2 || (k == 8 || (k == 9 || (k == 10 || (k == 11 || (k == 12 || (k == 13 || (k == 14 || k == 16))))))))))
abbrev KRr : TS → TS → Prop := KF fRr gP3
abbrev KRu : TS → TS → Prop := KF fRu gP3
theorem KP4.r {z u : TS} (h : KP4 z u) : KRr z u := ⟨h.1.mono (fun r k q => by unfold fRr at q; unfold fP4; simp at q ⊢; omega), h.2.1, h.2.2.2.1, h.2.2.1⟩
theorem KN8.rr {z u : TS} (h : KN8 z u) : KRr z u := KP4.r (KN8.p4 h)
theorem KA9.rr {z u : TS} (h : KA9 z u) : KRr z u := KP4.r (KA9.p4 h)
theorem KRr.u {z u : TS} (h : KRr z u) : KRu z u := h.mono (fun r k q => by unfold fRu at q; unfold fRr; simp at q ⊢; omega) (fun _ q => q)
theorem KRu.r {z u : TS} (h : KRu z u) : KR z u := ⟨h.1.mono (fun r k q => by unfold kri kxi at q; unfold fRu; simp at q ⊢; omega), fun j q => h.2.1 j (by unfold kra kxa at q; unfold gP3; simp at q ⊢; omega), h.2.2.2⟩
set_option maxHeartbeats 4000000 in
set_option maxRecDepth 100000 in
theorem v_readsR (l : Launch) (D : va_G) (K : Nat → ClassId) (ad : Nat → Nat) (z : TS) (o : Ok z) (ht : iv 0 5 (tI z 386 11)) (wf : WFc z) (hc0 : (tA z 391 (tx z)).toInt = 0) : cI l yX11_readsAll cX11_readsAll 2 .boolean ({ frames := 11, cells := 0, slots := 0, locals := 241 }) D K ad z [.ref (ad 386)] (fun r u => Ok u ∧ KRr z u ∧ iv 0 1 r ∧ (WFc u)) := by
  refine t_enterI (by decide) (Nat.le_of_ble_eq_true rfl) rfl rfl ?_
  intro p e s m args below meth c A R Q H locs ls E hfr hlo RET G hl
  have E : mE p s m meth c cX11_readsAll args 2 RX11 D K A := E
  have hl : lv_has ls 2 [(0, .ref (ad 386))] := hl
  refine lv_aload_n E.1 E.2.1 dX11_readsAll_0 rfl (lv_at hl 0 rfl) ?_
  refine t_get E G 11 4 (rfl : ro 386 = 11) (C := RX11) (T := TX11) (N := 37) rfl (by decide) (by decide) (by decide) mw_fl_11_17 (v := .ref (ad 389)) (fvl_o (n := 3) rfl) dX11_readsAll_1 ?_
  refine lv_aload_n E.1 E.2.1 dX11_readsAll_4 rfl (lv_at hl 0 rfl) ?_
  refine t_get E G 11 11 (rfl : ro 386 = 11) (C := RX11) (T := TX11) (N := 37) rfl (by decide) (by decide) (by decide) mw_fl_11_147 (fvl_i rfl) dX11_readsAll_5 ?_
  refine lv_topi (fun v1 e2 => ?_)
  have b3 : iv 0 6 v1 := by rw [e2]; exact o.i 11 11 (rfl : ro 386 = 11)
  have b4 : iv 0 5 v1 := by rw [(e2.trans rfl)]; exact ht
  refine lv_iconst (v := 0) E.1 E.2.1 dX11_readsAll_8 (by decide) ?_
  refine t_iast E G 47 (rfl : ro 389 = 47) (by decide) (by decide) rfl (n := 7) rfl (iv_vp b4 (by decide) (by decide)) dX11_readsAll_9 (fun H locs G => ?_)
  obtain ⟨zz9, G, oo10, kk11, h12, h5, h7, h8⟩ : ∃ u : TS, mG D A s H locs (wd K ad u) ∧ Ok u ∧ KRr z u ∧ tI u 386 11 = v1 ∧ (Ln u = 0) ∧ ((tA u 391 (tx u)).toInt = 0) ∧ (WFc u) := ⟨_, G, ok_u o 47 (rfl : ro 389 = 47) (wr_u (by decide) (iv_lit 0 (by decide) (by decide))) (by decide), KF.tr KF.rf (KF_r 47 (rfl : ro 389 = 47) (by decide)), e2.symm, (ln_0 (tx_of (e2.trans rfl))), hc0, (wf_l0 wf (tx_of (e2.trans rfl)) hc0)⟩
  refine lv_aload_n E.1 E.2.1 dX11_readsAll_10 rfl (lv_at hl 0 rfl) ?_
  refine lv_iconst (v := 0) E.1 E.2.1 dX11_readsAll_11 (by decide) ?_
  refine t_puti E G 11 14 (rfl : ro 386 = 11) (C := RX11) (T := TX11) (N := 37) rfl (by decide) (by decide) (by decide) rfl rfl mw_fl_11_246 rfl dX11_readsAll_12 (fun H locs G => ?_)
  obtain ⟨zz16, G, oo17, kk18, h19, h20, h13, h14, h15⟩ : ∃ u : TS, mG D A s H locs (wd K ad u) ∧ Ok u ∧ KRr z u ∧ tI u 386 11 = v1 ∧ tI u 386 14 = 0 ∧ (WFc u) ∧ (Ln u = 0) ∧ ((tA u 391 (tx u)).toInt = 0) := ⟨_, G, ok_i oo10 11 (rfl : ro 386 = 11) (iv_mono (iv_lit (lo := 0) (hi := 0) 0 (by decide) (by decide)) (by decide) (by decide)) (by decide), KF.tr kk11 (KF_i 11 (rfl : ro 386 = 11) (by decide)), (sI_k h12 (by decide)), sI_self, h8, ((Same.e (Same.i (by decide))).1.trans h5), h7⟩
  refine lv_aload_n E.1 E.2.1 dX11_readsAll_15 rfl (lv_at hl 0 rfl) ?_
  refine lv_iconst (v := 0) E.1 E.2.1 dX11_readsAll_16 (by decide) ?_
  refine t_puti E G 11 8 (rfl : ro 386 = 11) (C := RX11) (T := TX11) (N := 37) rfl (by decide) (by decide) (by decide) rfl rfl mw_fl_11_93 rfl dX11_readsAll_17 (fun H locs G => ?_)
  obtain ⟨zz24, G, oo25, kk26, h27, h28, h29, h21, h22, h23⟩ : ∃ u : TS, mG D A s H locs (wd K ad u) ∧ Ok u ∧ KRr z u ∧ tI u 386 11 = v1 ∧ tI u 386 14 = 0 ∧ tI u 386 8 = 0 ∧ (WFc u) ∧ (Ln u = 0) ∧ ((tA u 391 (tx u)).toInt = 0) := ⟨_, G, ok_i oo17 11 (rfl : ro 386 = 11) (iv_mono (iv_lit (lo := 0) (hi := 0) 0 (by decide) (by decide)) (by decide) (by decide)) (by decide), KF.tr kk18 (KF_i 11 (rfl : ro 386 = 11) (by decide)), (sI_k h19 (by decide)), (sI_k h20 (by decide)), sI_self, h13, ((Same.e (Same.i (by decide))).1.trans h14), h15⟩
  refine lv_aload_n E.1 E.2.1 dX11_readsAll_20 rfl (lv_at hl 0 rfl) ?_
  refine lv_iconst (v := 0) E.1 E.2.1 dX11_readsAll_21 (by decide) ?_
  refine t_puti E G 11 9 (rfl : ro 386 = 11) (C := RX11) (T := TX11) (N := 37) rfl (by decide) (by decide) (by decide) rfl rfl mw_fl_11_90 rfl dX11_readsAll_22 (fun H locs G => ?_)
  obtain ⟨zz33, G, oo34, kk35, h36, h37, h38, h39, h30, h31, h32⟩ : ∃ u : TS, mG D A s H locs (wd K ad u) ∧ Ok u ∧ KRr z u ∧ tI u 386 11 = v1 ∧ tI u 386 14 = 0 ∧ tI u 386 8 = 0 ∧ tI u 386 9 = 0 ∧ (WFc u) ∧ (Ln u = 0) ∧ ((tA u 391 (tx u)).toInt = 0) := ⟨_, G, ok_i oo25 11 (rfl : ro 386 = 11) (iv_mono (iv_lit (lo := 0) (hi := 0) 0 (by decide) (by decide)) (by decide) (by decide)) (by decide), KF.tr kk26 (KF_i 11 (rfl : ro 386 = 11) (by decide)), (sI_k h27 (by decide)), (sI_k h28 (by decide)), (sI_k h29 (by decide)), sI_self, h21, ((Same.e (Same.i (by decide))).1.trans h22), h23⟩
  refine lv_aload_n E.1 E.2.1 dX11_readsAll_25 rfl (lv_at hl 0 rfl) ?_
  refine lv_iconst (v := 0) E.1 E.2.1 dX11_readsAll_26 (by decide) ?_
  refine t_puti E G 11 12 (rfl : ro 386 = 11) (C := RX11) (T := TX11) (N := 37) rfl (by decide) (by decide) (by decide) rfl rfl mw_fl_11_150 rfl dX11_readsAll_27 (fun H locs G => ?_)
  obtain ⟨zz43, G, oo44, kk45, h46, h47, h48, h49, h50, h40, h41, h42⟩ : ∃ u : TS, mG D A s H locs (wd K ad u) ∧ Ok u ∧ KRr z u ∧ tI u 386 11 = v1 ∧ tI u 386 14 = 0 ∧ tI u 386 8 = 0 ∧ tI u 386 9 = 0 ∧ tI u 386 12 = 0 ∧ (WFc u) ∧ (Ln u = 0) ∧ ((tA u 391 (tx u)).toInt = 0) := ⟨_, G, ok_i oo34 11 (rfl : ro 386 = 11) (iv_mono (iv_lit (lo := 0) (hi := 0) 0 (by decide) (by decide)) (by decide) (by decide)) (by decide), KF.tr kk35 (KF_i 11 (rfl : ro 386 = 11) (by decide)), (sI_k h36 (by decide)), (sI_k h37 (by decide)), (sI_k h38 (by decide)), (sI_k h39 (by decide)), sI_self, h30, ((Same.e (Same.i (by decide))).1.trans h31), h32⟩
  refine lv_aload_n E.1 E.2.1 dX11_readsAll_30 rfl (lv_at hl 0 rfl) ?_
  have h51 := pi_0 oo44 (by rw [h46]; exact b4) h48 h50 h41
  have h52 : (tA zz43 391 (tx zz43)).toInt ≤ (tI zz43 386 14).toInt ∧ (tI zz43 386 14).toInt ≤ 12 := by rw [h42, h47]; decide
  refine t_vi E G hl (v_clauseR l D K ad zz43 oo44 h51.1 h51.2.1 h51.2.2 h40 h52.1 h52.2) 11 (rfl : ro 386 = 11) (by decide) rfl rfl 0 rfl mw_code_X11_clauseHere mw_ini_11 mw_ml_11_255 mw_inst_X11_clauseHere mw_sel_X11_clauseHere hd_X11_clauseHere ⟨Nat.le_trans (by decide) hfr, Nat.le_trans (by decide) hlo⟩ rfl rfl rfl (Nat.le_of_ble_eq_true rfl) dX11_readsAll_31 (fun r54 zz53 H locs hp55 G => ?_)
  obtain ⟨oo56, kk57, b58, h59, h60, h61, h62, h63⟩ := hp55
  have kk64 : KRr z zz53 := KF.tr kk45 (KP4.r kk57)
  have h65 : tI zz53 386 11 = v1 := KPf.i kk57 11 (rfl : ro 386 = 11) (by decide) h46
  have h66 : 0 ≤ SLk zz53 := by have h1 := h51.2.1; have h2 := h61; omega
  have h67 : ¬ r54 = 0 → 0 ≤ Hh zz53 ∧ (tA zz53 391 (tx zz53)).toInt ≤ (tI zz53 386 14).toInt ∧ (tI zz53 386 14).toInt ≤ 12 := by have h := h63; rw [← kk57.2.2.2.2.2.2.2.2] at h; exact h
  refine lv_istore_n (lv' := [(1, .int r54), (0, .ref (ad 386))]) E.1 E.2.1 dX11_readsAll_34 rfl hl (by decide) rfl (fun ls hl => ?_)
  have LOOP35 : ∀ n : Nat, ∀ (zz69 : TS) (y68 : Int32) (H : Heap) (locs : List Loc) (ls : Array Slot), mG D A s H locs (wd K ad zz69) → Ok zz69 → KRr z zz69 → iv 0 1 y68 → PIx zz69 → 0 ≤ SLk zz69 → WFc zz69 → (¬ y68 = 0 → 0 ≤ Hh zz69 ∧ (tA zz69 391 (tx zz69)).toInt ≤ (tI zz69 386 14).toInt ∧ (tI zz69 386 14).toInt ≤ 12) → 400 < (tI zz69 386 8).toInt + (n : Int) → lv_has ls 2 [(1, .int y68), (0, .ref (ad 386))] → W p l e R s m args below meth c H locs 0 0 Q (F0 m 35 ls []) := by
    intro n
    induction n with
    | zero =>
      intro zz69 y68 H locs ls G oo70 kk71 b73 h74 h75 h76 h77 m72 hl
      exact absurd m72 (by have := (oo70.i (j := 386) 11 8 rfl).2; have e : ihi 11 8 = 400 := (by decide); omega)
    | succ n ih35 =>
      intro zz69 y68 H locs ls G oo70 kk71 b73 h74 h75 h76 h77 m72 hl
      refine lv_iload_n E.1 E.2.1 dX11_readsAll_35 rfl (lv_at hl 0 rfl) ?_
      have sc78 : Scx zz69 zz69 := Scx.rf h74.2.1
      refine lv_if_eq (tgt := 66) E.1 E.2.1 dX11_readsAll_36 (by decide) (fun c79 => ?_) (fun c79 => ?_)
      · skip
        have b80 : iv 0 0 y68 := iv_eq c79 (iv_lit (lo := 0) (hi := 0) 0 (by decide) (by decide))
        refine lv_iload_n E.1 E.2.1 dX11_readsAll_66 rfl (lv_at hl 0 rfl) ?_
        refine lv_if_eq (tgt := 88) E.1 E.2.1 dX11_readsAll_67 (by decide) (fun _ => ?_) (fun h => absurd c79 h)
        refine lv_aload_n E.1 E.2.1 dX11_readsAll_88 rfl (lv_at hl 1 rfl) ?_
        refine lv_iconst (v := 0) E.1 E.2.1 dX11_readsAll_89 (by decide) ?_
        refine t_puti E G 11 1 (rfl : ro 386 = 11) (C := RX11) (T := TX11) (N := 37) rfl (by decide) (by decide) (by decide) rfl rfl mw_fl_11_83 rfl dX11_readsAll_90 (fun H locs G => ?_)
        obtain ⟨zz82, G, oo83, kk84, h85, h81⟩ : ∃ u : TS, mG D A s H locs (wd K ad u) ∧ Ok u ∧ KRr z u ∧ tI u 386 1 = 0 ∧ (WFc u) := ⟨_, G, ok_i oo70 11 (rfl : ro 386 = 11) (iv_mono (iv_lit (lo := 0) (hi := 0) 0 (by decide) (by decide)) (by decide) (by decide)) (by decide), KF.tr kk71 (KF_i 11 (rfl : ro 386 = 11) (by decide)), sI_self, h76⟩
        refine lv_aload_n E.1 E.2.1 dX11_readsAll_93 rfl (lv_at hl 1 rfl) ?_
        refine t_get E G 11 9 (rfl : ro 386 = 11) (C := RX11) (T := TX11) (N := 37) rfl (by decide) (by decide) (by decide) mw_fl_11_90 (fvl_i rfl) dX11_readsAll_94 ?_
        refine lv_topi (fun v86 e87 => ?_)
        refine lv_if_ne (tgt := 104) E.1 E.2.1 dX11_readsAll_97 (by decide) (fun c88 => ?_) (fun c88 => ?_)
        · skip
          refine lv_iconst (v := 0) E.1 E.2.1 dX11_readsAll_104 (by decide) ?_
          exact RET G ⟨oo83, kk84, (iv_mono (iv_lit (lo := 0) (hi := 0) 0 (by decide) (by decide)) (by decide) (by decide)), h81⟩ (by decide) dX11_readsAll_105
        · skip
          have b89 : iv 0 0 v86 := iv_eq c88 (iv_lit (lo := 0) (hi := 0) 0 (by decide) (by decide))
          refine lv_iconst (v := 1) E.1 E.2.1 dX11_readsAll_100 (by decide) ?_
          refine lv_goto (tgt := 105) E.1 E.2.1 dX11_readsAll_101 (by decide) ?_
          exact RET G ⟨oo83, kk84, (iv_mono (iv_lit (lo := 1) (hi := 1) 1 (by decide) (by decide)) (by decide) (by decide)), h81⟩ (by decide) dX11_readsAll_105
      · skip
        have b90 : iv 1 1 y68 := ne_lo c79 b73 (by decide) (by decide)
        have h91 := h77 c79
        refine lv_aload_n E.1 E.2.1 dX11_readsAll_39 rfl (lv_at hl 1 rfl) ?_
        refine t_vi E G hl (v_see l D K ad zz69 oo70 sc78.1) 11 (rfl : ro 386 = 11) (by decide) rfl rfl 0 rfl mw_code_X11_see mw_ini_11 mw_ml_11_96 mw_inst_X11_see mw_sel_X11_see hd_X11_see ⟨Nat.le_trans (by decide) hfr, Nat.le_trans (by decide) hlo⟩ rfl rfl rfl (Nat.le_of_ble_eq_true rfl) dX11_readsAll_40 (fun r93 zz92 H locs hp94 G => ?_)
        obtain ⟨oo95, kk96, b97, h98, h99, h100, h101⟩ := hp94
        have kk102 : KRr z zz92 := KF.tr kk71 (KN8.rr kk96)
        have h103 := Scx.tr sc78 h98
        have h104 : WFc zz92 := wf_ka h76 kk96.2.1 rfl rfl rfl rfl
        have sm105 := Same.of kk96 rfl rfl rfl
        have h106 : PIx zz92 := pi_q h74 sm105 h98.1 (kk96.1 386 12 rfl) (kk96.1 386 11 rfl)
        have h107 : 0 ≤ SLk zz92 := by have h := sl_q (z := zz69) (c := 0) (c' := 0) 0 (by omega) sm105 (by have h := h98.2; omega) (by decide); have h2 := h75; omega
        have h108 := hh_s sm105 h91.1
        have h109 : (tA zz92 391 (tx zz92)).toInt ≤ (tI zz92 386 14).toInt ∧ (tI zz92 386 14).toInt ≤ 12 := by rw [sm105.1, (kk96.2.1 391 rfl).1, kk96.1 386 14 rfl]; exact h91.2
        refine lv_bipush (v := 59) E.1 E.2.1 dX11_readsAll_43 (by decide) ?_
        refine lv_icmp_ne (tgt := 66) E.1 E.2.1 dX11_readsAll_45 (by decide) (fun c110 => ?_) (fun c110 => ?_)
        · skip
          refine lv_iload_n E.1 E.2.1 dX11_readsAll_66 rfl (lv_at hl 0 rfl) ?_
          refine lv_if_eq (tgt := 88) E.1 E.2.1 dX11_readsAll_67 (by decide) (fun h => absurd h (ivne2 b90 (iv_lit (lo := 0) (hi := 0) 0 (by decide) (by decide)) (by decide))) (fun _ => ?_)
          refine lv_aload_n E.1 E.2.1 dX11_readsAll_70 rfl (lv_at hl 1 rfl) ?_
          refine t_vi E G hl (v_see l D K ad zz92 oo95 h103.1) 11 (rfl : ro 386 = 11) (by decide) rfl rfl 0 rfl mw_code_X11_see mw_ini_11 mw_ml_11_96 mw_inst_X11_see mw_sel_X11_see hd_X11_see ⟨Nat.le_trans (by decide) hfr, Nat.le_trans (by decide) hlo⟩ rfl rfl rfl (Nat.le_of_ble_eq_true rfl) dX11_readsAll_71 (fun r112 zz111 H locs hp113 G => ?_)
          obtain ⟨oo114, kk115, b116, h117, h118, h119, h120⟩ := hp113
          have kk121 : KRr z zz111 := KF.tr kk102 (KN8.rr kk115)
          have h122 := Scx.tr h103 h117
          have h123 : WFc zz111 := wf_ka h104 kk115.2.1 rfl rfl rfl rfl
          have sm124 := Same.of kk115 rfl rfl rfl
          have h125 : PIx zz111 := pi_q h106 sm124 h117.1 (kk115.1 386 12 rfl) (kk115.1 386 11 rfl)
          have h126 : 0 ≤ SLk zz111 := by have h := sl_q (z := zz92) (c := 0) (c' := 0) 0 (by omega) sm124 (by have h := h117.2; omega) (by decide); have h2 := h107; omega
          have h127 := hh_s sm124 h108
          have h128 : (tA zz111 391 (tx zz111)).toInt ≤ (tI zz111 386 14).toInt ∧ (tI zz111 386 14).toInt ≤ 12 := by rw [sm124.1, (kk115.2.1 391 rfl).1, kk115.1 386 14 rfl]; exact h109
          refine lv_iconst (v := (-1)) E.1 E.2.1 dX11_readsAll_74 (by decide) ?_
          refine lv_icmp_eq (tgt := 88) E.1 E.2.1 dX11_readsAll_75 (by decide) (fun c129 => ?_) (fun c129 => ?_)
          · skip
            have b130 : iv (-1) (-1) r112 := iv_eq c129 (iv_lit (lo := (-1)) (hi := (-1)) (-1) (by decide) (by decide))
            refine lv_aload_n E.1 E.2.1 dX11_readsAll_88 rfl (lv_at hl 1 rfl) ?_
            refine lv_iconst (v := 0) E.1 E.2.1 dX11_readsAll_89 (by decide) ?_
            refine t_puti E G 11 1 (rfl : ro 386 = 11) (C := RX11) (T := TX11) (N := 37) rfl (by decide) (by decide) (by decide) rfl rfl mw_fl_11_83 rfl dX11_readsAll_90 (fun H locs G => ?_)
            obtain ⟨zz132, G, oo133, kk134, h135, h131⟩ : ∃ u : TS, mG D A s H locs (wd K ad u) ∧ Ok u ∧ KRr z u ∧ tI u 386 1 = 0 ∧ (WFc u) := ⟨_, G, ok_i oo114 11 (rfl : ro 386 = 11) (iv_mono (iv_lit (lo := 0) (hi := 0) 0 (by decide) (by decide)) (by decide) (by decide)) (by decide), KF.tr kk121 (KF_i 11 (rfl : ro 386 = 11) (by decide)), sI_self, h123⟩
            refine lv_aload_n E.1 E.2.1 dX11_readsAll_93 rfl (lv_at hl 1 rfl) ?_
            refine t_get E G 11 9 (rfl : ro 386 = 11) (C := RX11) (T := TX11) (N := 37) rfl (by decide) (by decide) (by decide) mw_fl_11_90 (fvl_i rfl) dX11_readsAll_94 ?_
            refine lv_topi (fun v136 e137 => ?_)
            refine lv_if_ne (tgt := 104) E.1 E.2.1 dX11_readsAll_97 (by decide) (fun c138 => ?_) (fun c138 => ?_)
            · skip
              refine lv_iconst (v := 0) E.1 E.2.1 dX11_readsAll_104 (by decide) ?_
              exact RET G ⟨oo133, kk134, (iv_mono (iv_lit (lo := 0) (hi := 0) 0 (by decide) (by decide)) (by decide) (by decide)), h131⟩ (by decide) dX11_readsAll_105
            · skip
              have b139 : iv 0 0 v136 := iv_eq c138 (iv_lit (lo := 0) (hi := 0) 0 (by decide) (by decide))
              refine lv_iconst (v := 1) E.1 E.2.1 dX11_readsAll_100 (by decide) ?_
              refine lv_goto (tgt := 105) E.1 E.2.1 dX11_readsAll_101 (by decide) ?_
              exact RET G ⟨oo133, kk134, (iv_mono (iv_lit (lo := 1) (hi := 1) 1 (by decide) (by decide)) (by decide) (by decide)), h131⟩ (by decide) dX11_readsAll_105
          · skip
            have b140 : iv 0 255 r112 := ne_lo c129 b116 (by decide) (by decide)
            have h141 : LSx zz111 := h120 (Int.le_trans (by decide) b140.1)
            refine lv_aload_n E.1 E.2.1 dX11_readsAll_78 rfl (lv_at hl 1 rfl) ?_
            refine lv_iconst (v := 0) E.1 E.2.1 dX11_readsAll_79 (by decide) ?_
            refine lv_aload_n E.1 E.2.1 dX11_readsAll_80 rfl (lv_at hl 1 rfl) ?_
            refine t_get E G 11 8 (rfl : ro 386 = 11) (C := RX11) (T := TX11) (N := 37) rfl (by decide) (by decide) (by decide) mw_fl_11_93 (fvl_i rfl) dX11_readsAll_81 ?_
            refine lv_topi (fun v142 e143 => ?_)
            have b144 : iv 0 400 v142 := by rw [e143]; exact oo114.i 11 8 (rfl : ro 386 = 11)
            have b145 : iv 0 399 v142 := LSx.iv oo114 h141 e143
            refine t_vi E G hl (v_fails l D K ad zz111 oo114 (0 : Int32) v142) 11 (rfl : ro 386 = 11) (by decide) rfl rfl 2 rfl mw_code_X11_fails mw_ini_11 mw_ml_11_114 mw_inst_X11_fails mw_sel_X11_fails hd_X11_fails ⟨Nat.le_trans (by decide) hfr, Nat.le_trans (by decide) hlo⟩ rfl rfl rfl (Nat.le_of_ble_eq_true rfl) dX11_readsAll_84 (fun r147 zz146 H locs hp148 G => ?_)
            obtain ⟨oo149, kk150, b151⟩ := hp148
            have kk152 : KRr z zz146 := KF.tr kk121 (KA9.rr kk150)
            have h153 : tI zz146 386 8 = v142 := KF.i kk150 11 (rfl : ro 386 = 11) (by decide) e143.symm
            have h154 := Scx.tr h122 (Scx.k h122.1 kk150 rfl rfl)
            have h155 : LSx zz146 := LSx.k h141 kk150 (kk150.1 386 8 rfl) rfl
            have h156 : WFc zz146 := wf_ka h123 kk150.2.1 rfl rfl rfl rfl
            refine lv_pop E.1 E.2.1 dX11_readsAll_87 rfl ?_
            refine lv_aload_n E.1 E.2.1 dX11_readsAll_88 rfl (lv_at hl 1 rfl) ?_
            refine lv_iconst (v := 0) E.1 E.2.1 dX11_readsAll_89 (by decide) ?_
            refine t_puti E G 11 1 (rfl : ro 386 = 11) (C := RX11) (T := TX11) (N := 37) rfl (by decide) (by decide) (by decide) rfl rfl mw_fl_11_83 rfl dX11_readsAll_90 (fun H locs G => ?_)
            obtain ⟨zz158, G, oo159, kk160, h161, h162, h157⟩ : ∃ u : TS, mG D A s H locs (wd K ad u) ∧ Ok u ∧ KRr z u ∧ tI u 386 8 = v142 ∧ tI u 386 1 = 0 ∧ (WFc u) := ⟨_, G, ok_i oo149 11 (rfl : ro 386 = 11) (iv_mono (iv_lit (lo := 0) (hi := 0) 0 (by decide) (by decide)) (by decide) (by decide)) (by decide), KF.tr kk152 (KF_i 11 (rfl : ro 386 = 11) (by decide)), (sI_k h153 (by decide)), sI_self, h156⟩
            refine lv_aload_n E.1 E.2.1 dX11_readsAll_93 rfl (lv_at hl 1 rfl) ?_
            refine t_get E G 11 9 (rfl : ro 386 = 11) (C := RX11) (T := TX11) (N := 37) rfl (by decide) (by decide) (by decide) mw_fl_11_90 (fvl_i rfl) dX11_readsAll_94 ?_
            refine lv_topi (fun v163 e164 => ?_)
            refine lv_if_ne (tgt := 104) E.1 E.2.1 dX11_readsAll_97 (by decide) (fun c165 => ?_) (fun c165 => ?_)
            · skip
              refine lv_iconst (v := 0) E.1 E.2.1 dX11_readsAll_104 (by decide) ?_
              exact RET G ⟨oo159, kk160, (iv_mono (iv_lit (lo := 0) (hi := 0) 0 (by decide) (by decide)) (by decide) (by decide)), h157⟩ (by decide) dX11_readsAll_105
            · skip
              have b166 : iv 0 0 v163 := iv_eq c165 (iv_lit (lo := 0) (hi := 0) 0 (by decide) (by decide))
              refine lv_iconst (v := 1) E.1 E.2.1 dX11_readsAll_100 (by decide) ?_
              refine lv_goto (tgt := 105) E.1 E.2.1 dX11_readsAll_101 (by decide) ?_
              exact RET G ⟨oo159, kk160, (iv_mono (iv_lit (lo := 1) (hi := 1) 1 (by decide) (by decide)) (by decide) (by decide)), h157⟩ (by decide) dX11_readsAll_105
        · skip
          have b167 : iv 59 59 r93 := iv_eq c110 (iv_lit (lo := 59) (hi := 59) 59 (by decide) (by decide))
          have h168 : LSx zz92 := h101 (Int.le_trans (by decide) b167.1)
          refine lv_aload_n E.1 E.2.1 dX11_readsAll_48 rfl (lv_at hl 1 rfl) ?_
          refine lv_dup E.1 E.2.1 dX11_readsAll_49 rfl ?_
          refine t_get E G 11 8 (rfl : ro 386 = 11) (C := RX11) (T := TX11) (N := 37) rfl (by decide) (by decide) (by decide) mw_fl_11_93 (fvl_i rfl) dX11_readsAll_50 ?_
          refine lv_topi (fun v169 e170 => ?_)
          have b171 : iv 0 400 v169 := by rw [e170]; exact oo95.i 11 8 (rfl : ro 386 = 11)
          have b172 : iv 0 399 v169 := LSx.iv oo95 h168 e170
          refine lv_iconst (v := 1) E.1 E.2.1 dX11_readsAll_53 (by decide) ?_
          refine lv_iadd E.1 E.2.1 dX11_readsAll_54 ?_
          refine lv_topi (fun v173 e174 => ?_)
          have b175 : iv 1 400 v173 := by rw [e174]; exact iv_add b172 (iv_lit (lo := 1) (hi := 1) 1 (by decide) (by decide)) (by decide) (by decide) (by decide) (by decide)
          have l176 : v173.toInt = 1 + 1 * v169.toInt := (show v173.toInt = v169.toInt + 1 by rw [e174]; exact ti_addc 1 (by decide) b172 (by decide) (by decide)).trans (by omega)
          refine t_puti E G 11 8 (rfl : ro 386 = 11) (C := RX11) (T := TX11) (N := 37) rfl (by decide) (by decide) (by decide) rfl rfl mw_fl_11_93 rfl dX11_readsAll_55 (fun H locs G => ?_)
          obtain ⟨zz184, G, oo185, kk186, h187, h177, h178, h179, h180, h181, h182, h183⟩ : ∃ u : TS, mG D A s H locs (wd K ad u) ∧ Ok u ∧ KRr z u ∧ tI u 386 8 = v173 ∧ (Scx zz69 u) ∧ (WFc u) ∧ ((tI zz69 386 8).toInt + 1 ≤ (tI u 386 8).toInt) ∧ (PIx u) ∧ (0 ≤ SLk u) ∧ (0 ≤ Hh u) ∧ ((tA u 391 (tx u)).toInt ≤ (tI u 386 14).toInt ∧ (tI u 386 14).toInt ≤ 12) := ⟨_, G, ok_i oo95 11 (rfl : ro 386 = 11) (iv_mono b175 (by decide) (by decide)) (by decide), KF.tr kk102 (KF_i 11 (rfl : ro 386 = 11) (by decide)), sI_self, (Scx.tr h103 (up_ls e170 h168 (l176.trans (by omega))).1), h104, (by have h1 := (up_ls e170 h168 (l176.trans (by omega))).2; have h2 := h103.2; omega), (pi_q h106 (Same.i (by decide)) (up_ls e170 h168 (l176.trans (by omega))).1.1 rfl rfl), (by have h := sl_q (z := zz92) (c := 0) (c' := 1) 1 (by omega) (Same.i (by decide)) (up_ls e170 h168 (l176.trans (by omega))).2 (by decide); have h2 := h107; omega), (hh_s (Same.i (by decide)) h108), h109⟩
          refine lv_aload_n E.1 E.2.1 dX11_readsAll_58 rfl (lv_at hl 1 rfl) ?_
          refine t_vi E G hl (v_clauseR l D K ad zz184 oo185 h180 h181 h182 h178 h183.1 h183.2) 11 (rfl : ro 386 = 11) (by decide) rfl rfl 0 rfl mw_code_X11_clauseHere mw_ini_11 mw_ml_11_255 mw_inst_X11_clauseHere mw_sel_X11_clauseHere hd_X11_clauseHere ⟨Nat.le_trans (by decide) hfr, Nat.le_trans (by decide) hlo⟩ rfl rfl rfl (Nat.le_of_ble_eq_true rfl) dX11_readsAll_59 (fun r189 zz188 H locs hp190 G => ?_)
          obtain ⟨oo191, kk192, b193, h194, h195, h196, h197, h198⟩ := hp190
          have kk199 : KRr z zz188 := KF.tr kk186 (KP4.r kk192)
          have h200 := Scx.tr h177 h194
          have h201 : 0 ≤ SLk zz188 := by have h1 := h181; have h2 := h196; omega
          have h202 : ¬ r189 = 0 → 0 ≤ Hh zz188 ∧ (tA zz188 391 (tx zz188)).toInt ≤ (tI zz188 386 14).toInt ∧ (tI zz188 386 14).toInt ≤ 12 := by have h := h198; rw [← kk192.2.2.2.2.2.2.2.2] at h; exact h
          have h203 : (tI zz69 386 8).toInt + 1 ≤ (tI zz188 386 8).toInt := by have h1 := h179; have h2 := h194.2; omega
          refine lv_istore_n (lv' := [(1, .int r189), (0, .ref (ad 386))]) E.1 E.2.1 dX11_readsAll_62 rfl hl (by decide) rfl (fun ls hl => ?_)
          refine lv_goto (tgt := 35) E.1 E.2.1 dX11_readsAll_63 (by decide) ?_
          exact ih35 zz188 r189 H locs ls G oo191 kk199 (iv_mono b193 (by decide) (by decide)) h195 h201 h197 h202 (by have h := h203; have := m72; omega) (lv_sub hl [0, 1] rfl)
  exact LOOP35 401 zz53 r54 H locs ls G oo56 kk64 (iv_mono b58 (by decide) (by decide)) h60 h66 h62 h67 (by have := (oo56.i (j := 386) 11 8 rfl).1; have e : ilo 11 8 = 0 := (by decide); omega) (lv_sub hl [0, 1] rfl)
