theorem mw_code_X11_numberHere : (Cond.code yX11_numberHere cX11_numberHere 5 (some .boolean) : Cond) ∈ cw := cw_of (List.mem_append_right _ (List.mem_append_right _ (List.mem_append_right _ (List.mem_append_right _ (List.mem_append_right _ (List.mem_append_right _ (List.mem_append_left _ (List.mem_of_getElem? (i := 48) rfl)))))))) (by decide +kernel)
theorem mw_fl_11_26 : (Cond.fieldLink RX11 26 "LureTownModel" "read" "[I" : Cond) ∈ cw := cw_of (List.mem_append_right _ (List.mem_append_right _ (List.mem_append_right _ (List.mem_append_right _ (List.mem_append_right _ (List.mem_append_left _ (List.mem_of_getElem? (i := 114) (by decide +kernel)))))))) (by decide +kernel)
theorem mw_inst_X11_numberHere : (Cond.instanceMethod yX11_numberHere : Cond) ∈ cw := cw_of (List.mem_append_right _ (List.mem_append_right _ (List.mem_append_right _ (List.mem_append_right _ (List.mem_append_right _ (List.mem_append_right _ (List.mem_append_left _ (List.mem_of_getElem? (i := 47) (by decide +kernel))))))))) (by decide +kernel)
theorem mw_ml_11_168 : (Cond.methodLink RX11 168 yX11_numberHere : Cond) ∈ cw := cw_of (List.mem_append_right _ (List.mem_append_right _ (List.mem_append_right _ (List.mem_append_right _ (List.mem_append_right _ (List.mem_append_right _ (List.mem_append_left _ (List.mem_of_getElem? (i := 45) (by decide +kernel))))))))) (by decide +kernel)
theorem mw_sel_X11_numberHere : (Cond.selects RX11 yX11_numberHere yX11_numberHere : Cond) ∈ cw := cw_of (List.mem_append_left _ (List.mem_of_getElem? (i := 59) (by decide +kernel))) (by decide +kernel)
theorem dX11_cellHere_0 : decode cX11_cellHere 0 = .ok (.aload_n 0, 1) := by decide +kernel
theorem dX11_cellHere_1 : decode cX11_cellHere 1 = .ok (.iload_n 2, 1) := by decide +kernel
theorem dX11_cellHere_2 : decode cX11_cellHere 2 = .ok (.iload_n 3, 1) := by decide +kernel
theorem dX11_cellHere_3 : decode cX11_cellHere 3 = .ok (.invokevirtual 168, 3) := by decide +kernel
theorem dX11_cellHere_6 : decode cX11_cellHere 6 = .ok (.ifCond .ne 5, 3) := by decide +kernel
theorem dX11_cellHere_9 : decode cX11_cellHere 9 = .ok (.iconst 0, 1) := by decide +kernel
theorem dX11_cellHere_10 : decode cX11_cellHere 10 = .ok (.ireturn, 1) := by decide +kernel
theorem dX11_cellHere_11 : decode cX11_cellHere 11 = .ok (.aload_n 0, 1) := by decide +kernel
theorem dX11_cellHere_12 : decode cX11_cellHere 12 = .ok (.getfield 26, 3) := by decide +kernel
theorem dX11_cellHere_15 : decode cX11_cellHere 15 = .ok (.iload_n 1, 1) := by decide +kernel
theorem dX11_cellHere_16 : decode cX11_cellHere 16 = .ok (.aload_n 0, 1) := by decide +kernel
theorem dX11_cellHere_17 : decode cX11_cellHere 17 = .ok (.getfield 118, 3) := by decide +kernel
theorem dX11_cellHere_20 : decode cX11_cellHere 20 = .ok (.iastore, 1) := by decide +kernel
theorem dX11_cellHere_21 : decode cX11_cellHere 21 = .ok (.iconst 1, 1) := by decide +kernel
theorem dX11_cellHere_22 : decode cX11_cellHere 22 = .ok (.ireturn, 1) := by decide +kernel
theorem hd_X11_numberHere : yX11_numberHere.cls ≠ "java/lang/invoke/MethodHandle" ∧ yX11_numberHere.cls ≠ "java/lang/invoke/VarHandle" ∧ (parseMethodDescriptor yX11_numberHere.desc).map (fun d => d.parameters.length) = some 2 := ⟨by decide +kernel, by decide +kernel, by decide +kernel⟩
theorem up_ls {z : TS} {a a' : Int32} (h8 : a = tI z 386 8) (ls : LSx z) (e : a'.toInt = 1 + 1 * a.toInt) : Scx z (setI z 386 8 a') ∧ (tI z 386 8).toInt + 1 ≤ (tI (setI z 386 8 a') 386 8).toInt := by
  have e1 : tI (setI z 386 8 a') 386 8 = a' := sI_self
  have e2 : tI (setI z 386 8 a') 386 1 = tI z 386 1 := sI_k rfl (by decide)
  unfold Scx NXx
  unfold LSx at ls
  rw [e1, e2]
  rw [← h8] at ls ⊢
  exact ⟨⟨by omega, by omega⟩, by omega⟩
theorem LSx.k {f : Nat → Nat → Bool} {g : Nat → Bool} {z u : TS} (h : LSx z) (k : KF f g z u) (h8 : tI u 386 8 = tI z 386 8) (h1 : f 11 1 = true) : LSx u := by
  unfold LSx at *; rw [h8, k.1 386 1 h1]; exact h
theorem LSx.iv {z : TS} {a : Int32} (o : Ok z) (h : LSx z) (e : a = tI z 386 8) : iv 0 399 a := by
  have b := (o.i (j := 386) 11 1 rfl).2
  have c := (o.i (j := 386) 11 8 rfl).1
  have e1 : ihi 11 1 = 400 := by decide
  have e2 : ilo 11 8 = 0 := by decide
  unfold LSx at h
  rw [← e] at h c
  exact ⟨by omega, by omega⟩
/-- a town's text -/
def fTn (r k : Nat) : Bool := !(r == 11 && (k == 8 || (k == 9 || (k == 10 || k == 14))))
def gTn (r : Nat) : Bool := !(r == 50)
abbrev KTn : TS → TS → Prop := KF fTn gTn
theorem KZ.t {z u : TS} (h : KZ z u) : KTn z u := h.mono (fun r k q => by unfold fTn at q; unfold fZ; cases h1 : (r == 11) <;> cases h2 : (k == 8) <;> cases h3 : (k == 9) <;> cases h4 : (k == 10) <;> simp_all) (fun _ _ => rfl)
theorem KN8.t {z u : TS} (h : KN8 z u) : KTn z u := KZ.t (KN8.z h)
theorem KA9.t {z u : TS} (h : KA9 z u) : KTn z u := KZ.t (KA9.z h)
def fTr (r k : Nat) : Bool := !(r == 11 && (k == 1 || (k == 8 || (k == 9 || (k == 10 || (k == 11 || (k == 12 || (k == 14 || (k == 18 || (k == 21 || k == 26))))))))))
def gTr (r : Nat) : Bool := !(r == 47 || (r == 50 || (decide (52 ≤ r) && decide (r ≤ 62))))
def KTr (z u : TS) : Prop := KF fTr gTr z u ∧ ∀ t : Nat, t < 6 → tA u 389 t = tA z 389 t
theorem KTr.rf {z : TS} : KTr z z := ⟨KF.rf, fun _ _ => rfl⟩
theorem KTr.tr {z u w : TS} (h1 : KTr z u) (h2 : KTr u w) : KTr z w := ⟨h1.1.tr h2.1, fun t ht => (h2.2 t ht).trans (h1.2 t ht)⟩
theorem KTr_i {z : TS} {j k : Nat} {v : Int32} (ci : Nat) (hj : ro j = ci) (h : fTr ci k = false) : KTr z (setI z j k v) := ⟨KF_i ci hj h, fun _ _ => rfl⟩
theorem KTr_r {z : TS} {j : Nat} {w : Nat → Int32} (r : Nat) (hj : ro j = r) (h : gTr r = false ∧ r ≠ 47) : KTr z (setR z j w) := ⟨KF_r r hj h.1, fun t _ => by
  show (if 389 = j then w else tA z 389) t = _
  rw [if_neg]
  rintro rfl
  exact h.2 hj.symm⟩
theorem KTr_len {z : TS} {i v : Int32} (hi : iv 6 6 i) : KTr z (setR z 389 (upd (tA z 389) i.toNatClampNeg v)) := ⟨KF_r 47 rfl rfl, fun t ht => by
  have n := iv_nat hi (by decide)
  have := hi.1
  show (if 389 = 389 then upd (tA z 389) i.toNatClampNeg v else tA z 389) t = _
  rw [if_pos rfl]
  unfold upd
  rw [if_neg (by omega)]⟩
theorem KTn.r {z u : TS} (h : KTn z u) : KTr z u := ⟨h.mono (fun r k q => by unfold fTr at q; unfold fTn; simp at q ⊢; omega) (fun r q => by unfold gTr at q; unfold gTn; simp at q ⊢; omega), fun t _ => by rw [(h.2.1 389 rfl).1]⟩
theorem KN8.r {z u : TS} (h : KN8 z u) : KTr z u := KTn.r (KN8.t h)
theorem KA9.r {z u : TS} (h : KA9 z u) : KTr z u := KTn.r (KA9.t h)
theorem KM.tr_ {z u : TS} (h : KM z u) : KTr z u := ⟨h.mono (fun r k q => by unfold fTr at q; unfold fM; simp at q ⊢; omega) (fun r q => by unfold gTr at q; unfold gM; simp at q ⊢; omega), fun t _ => by rw [(h.2.1 389 rfl).1]⟩
theorem KTr.wf {z u : TS} (h : KTr z u) (wf : WFc z) : WFc u := by
  have h1 := (h.1.2.1 388 rfl).1
  have h3 := (h.1.2.1 390 rfl).1
  have h4 := (h.1.2.1 391 rfl).1
  intro t ht c hc
  rw [h4] at hc
  have q := wf t ht c hc
  unfold clok sgn cle len at q ⊢
  rw [h1, h.2 t ht, h3]
  exact q
theorem KTr.r {z u : TS} (h : KTr z u) : KR z u := ⟨h.1.1.mono (fun r k q => by unfold kri kxi at q; unfold fTr; simp at q ⊢; omega), fun j q => h.1.2.1 j (by unfold kra kxa at q; unfold gTr; simp at q ⊢; omega), h.1.2.2.2⟩
set_option maxHeartbeats 4000000 in
set_option maxRecDepth 100000 in
theorem v_cellHere (l : Launch) (D : va_G) (K : Nat → ClassId) (ad : Nat → Nat) (z : TS) (o : Ok z) (x1 : Int32) (bx1 : iv 0 95 x1) (x2 : Int32) (x3 : Int32) (hn : NXx z) (hc : ∀ v : Int32, x2.toInt ≤ v.toInt → v.toInt ≤ x3.toInt → iv (alo 50 x1.toNatClampNeg) (ahi 50 x1.toNatClampNeg) v) : cI l yX11_cellHere cX11_cellHere 4 .boolean ({ frames := 2, cells := 0, slots := 0, locals := 49 }) D K ad z [.ref (ad 386), .int x1, .int x2, .int x3] (fun r u => Ok u ∧ KTn z u ∧ iv 0 1 r ∧ (Scx z u) ∧ (∀ i : Nat, i ≠ x1.toNatClampNeg → tA u 392 i = tA z 392 i)) := by
  have sc0 : Scx z z := Scx.rf hn
  refine t_enterI (by decide) (Nat.le_of_ble_eq_true rfl) rfl rfl ?_
  intro p e s m args below meth c A R Q H locs ls E hfr hlo RET G hl
  have E : mE p s m meth c cX11_cellHere args 4 RX11 D K A := E
  have hl : lv_has ls 4 [(0, .ref (ad 386)), (1, .int x1), (2, .int x2), (3, .int x3)] := hl
  refine lv_aload_n E.1 E.2.1 dX11_cellHere_0 rfl (lv_at hl 0 rfl) ?_
  refine lv_iload_n E.1 E.2.1 dX11_cellHere_1 rfl (lv_at hl 2 rfl) ?_
  refine lv_iload_n E.1 E.2.1 dX11_cellHere_2 rfl (lv_at hl 3 rfl) ?_
  refine t_vi E G hl (v_numberHere l D K ad z o x2 x3 sc0.1) 11 (rfl : ro 386 = 11) (by decide) rfl rfl 2 rfl mw_code_X11_numberHere mw_ini_11 mw_ml_11_168 mw_inst_X11_numberHere mw_sel_X11_numberHere hd_X11_numberHere ⟨Nat.le_trans (by decide) hfr, Nat.le_trans (by decide) hlo⟩ rfl rfl rfl (Nat.le_of_ble_eq_true rfl) dX11_cellHere_3 (fun r2 zz1 H locs hp3 G => ?_)
  obtain ⟨oo4, kk5, b6, h7, h8⟩ := hp3
  have kk9 : KTn z zz1 := KF.tr KF.rf (KZ.t kk5)
  have h10 := Scx.tr sc0 h7
  refine lv_if_ne (tgt := 11) E.1 E.2.1 dX11_cellHere_6 (by decide) (fun c11 => ?_) (fun c11 => ?_)
  · skip
    have b12 : iv 1 1 r2 := ne_lo c11 b6 (by decide) (by decide)
    have h13 := h8 c11
    refine lv_aload_n E.1 E.2.1 dX11_cellHere_11 rfl (lv_at hl 0 rfl) ?_
    refine t_get E G 11 7 (rfl : ro 386 = 11) (C := RX11) (T := TX11) (N := 37) rfl (by decide) (by decide) (by decide) mw_fl_11_26 (v := .ref (ad 392)) (fvl_o (n := 6) rfl) dX11_cellHere_12 ?_
    refine lv_iload_n E.1 E.2.1 dX11_cellHere_15 rfl (lv_at hl 1 rfl) ?_
    refine lv_aload_n E.1 E.2.1 dX11_cellHere_16 rfl (lv_at hl 0 rfl) ?_
    refine t_get E G 11 10 (rfl : ro 386 = 11) (C := RX11) (T := TX11) (N := 37) rfl (by decide) (by decide) (by decide) mw_fl_11_118 (fvl_i rfl) dX11_cellHere_17 ?_
    refine lv_topi (fun v14 e15 => ?_)
    have b16 : iv 0 99999 v14 := by rw [e15]; exact oo4.i 11 10 (rfl : ro 386 = 11)
    refine t_iast E G 50 (rfl : ro 392 = 50) (by decide) (by decide) rfl (n := 96) rfl (iv_vp bx1 (by decide) (by decide)) dX11_cellHere_20 (fun H locs G => ?_)
    obtain ⟨zz19, G, oo20, kk21, h22, h17, h18⟩ : ∃ u : TS, mG D A s H locs (wd K ad u) ∧ Ok u ∧ KTn z u ∧ tI u 386 10 = v14 ∧ (Scx z u) ∧ (∀ i : Nat, i ≠ x1.toNatClampNeg → tA u 392 i = tA z 392 i) := ⟨_, G, ok_u oo4 50 (rfl : ro 392 = 50) (hc v14 (by have e := congrArg Int32.toInt e15; have := h13.2.1; omega) (by have e := congrArg Int32.toInt e15; have := h13.2.2; omega)) (by decide), KF.tr kk9 (KF_r 50 (rfl : ro 392 = 50) (by decide)), e15.symm, h10, (fun i hi => by rw [sR_row]; unfold upd; rw [if_neg hi, (kk5.2.1 392 rfl).1])⟩
    refine lv_iconst (v := 1) E.1 E.2.1 dX11_cellHere_21 (by decide) ?_
    exact RET G ⟨oo20, kk21, (iv_mono (iv_lit (lo := 1) (hi := 1) 1 (by decide) (by decide)) (by decide) (by decide)), h17, h18⟩ (by decide) dX11_cellHere_22
  · skip
    have b23 : iv 0 0 r2 := iv_eq c11 (iv_lit (lo := 0) (hi := 0) 0 (by decide) (by decide))
    refine lv_iconst (v := 0) E.1 E.2.1 dX11_cellHere_9 (by decide) ?_
    exact RET G ⟨oo4, kk9, (iv_mono (iv_lit (lo := 0) (hi := 0) 0 (by decide) (by decide)) (by decide) (by decide)), h10, (fun i _ => by rw [(kk5.2.1 392 rfl).1])⟩ (by decide) dX11_cellHere_10
