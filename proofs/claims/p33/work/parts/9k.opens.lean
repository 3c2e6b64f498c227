theorem mw_fl_11_153 : (Cond.fieldLink RX11 153 "LureTownModel" "deep" "I" : Cond) ∈ cw := cw_of (List.mem_append_right _ (List.mem_append_right _ (List.mem_append_right _ (List.mem_append_right _ (List.mem_append_right _ (List.mem_append_left _ (List.mem_of_getElem? (i := 120) (by decide +kernel)))))))) (by decide +kernel)
theorem mw_fl_11_156 : (Cond.fieldLink RX11 156 "LureTownModel" "opened" "I" : Cond) ∈ cw := cw_of (List.mem_append_right _ (List.mem_append_right _ (List.mem_append_right _ (List.mem_append_right _ (List.mem_append_right _ (List.mem_append_left _ (List.mem_of_getElem? (i := 123) (by decide +kernel)))))))) (by decide +kernel)
theorem mw_fl_11_29 : (Cond.fieldLink RX11 29 "LureTownModel" "open" "[I" : Cond) ∈ cw := cw_of (List.mem_append_right _ (List.mem_append_right _ (List.mem_append_right _ (List.mem_append_right _ (List.mem_append_right _ (List.mem_append_left _ (List.mem_of_getElem? (i := 122) (by decide +kernel)))))))) (by decide +kernel)
theorem dX11_isInside_0 : decode cX11_isInside 0 = .ok (.iconst 0, 1) := by decide +kernel
theorem dX11_isInside_1 : decode cX11_isInside 1 = .ok (.istore_n 1, 1) := by decide +kernel
theorem dX11_isInside_2 : decode cX11_isInside 2 = .ok (.iload_n 1, 1) := by decide +kernel
theorem dX11_isInside_3 : decode cX11_isInside 3 = .ok (.aload_n 0, 1) := by decide +kernel
theorem dX11_isInside_4 : decode cX11_isInside 4 = .ok (.getfield 156, 3) := by decide +kernel
theorem dX11_isInside_7 : decode cX11_isInside 7 = .ok (.if_icmp .ge 22, 3) := by decide +kernel
theorem dX11_isInside_10 : decode cX11_isInside 10 = .ok (.aload_n 0, 1) := by decide +kernel
theorem dX11_isInside_11 : decode cX11_isInside 11 = .ok (.getfield 29, 3) := by decide +kernel
theorem dX11_isInside_14 : decode cX11_isInside 14 = .ok (.iload_n 1, 1) := by decide +kernel
theorem dX11_isInside_15 : decode cX11_isInside 15 = .ok (.iaload, 1) := by decide +kernel
theorem dX11_isInside_16 : decode cX11_isInside 16 = .ok (.bipush 91, 2) := by decide +kernel
theorem dX11_isInside_18 : decode cX11_isInside 18 = .ok (.if_icmp .ne 5, 3) := by decide +kernel
theorem dX11_isInside_21 : decode cX11_isInside 21 = .ok (.iconst 1, 1) := by decide +kernel
theorem dX11_isInside_22 : decode cX11_isInside 22 = .ok (.ireturn, 1) := by decide +kernel
theorem dX11_isInside_23 : decode cX11_isInside 23 = .ok (.iinc 1 1, 3) := by decide +kernel
theorem dX11_isInside_26 : decode cX11_isInside 26 = .ok (.goto (-24), 3) := by decide +kernel
theorem dX11_isInside_29 : decode cX11_isInside 29 = .ok (.iconst 0, 1) := by decide +kernel
theorem dX11_isInside_30 : decode cX11_isInside 30 = .ok (.ireturn, 1) := by decide +kernel
theorem dX11_opens_0 : decode cX11_opens 0 = .ok (.aload_n 0, 1) := by decide +kernel
theorem dX11_opens_1 : decode cX11_opens 1 = .ok (.getfield 153, 3) := by decide +kernel
theorem dX11_opens_4 : decode cX11_opens 4 = .ok (.bipush 10, 2) := by decide +kernel
theorem dX11_opens_6 : decode cX11_opens 6 = .ok (.if_icmp .ne 13, 3) := by decide +kernel
theorem dX11_opens_9 : decode cX11_opens 9 = .ok (.aload_n 0, 1) := by decide +kernel
theorem dX11_opens_10 : decode cX11_opens 10 = .ok (.iconst 2, 1) := by decide +kernel
theorem dX11_opens_11 : decode cX11_opens 11 = .ok (.aload_n 0, 1) := by decide +kernel
theorem dX11_opens_12 : decode cX11_opens 12 = .ok (.getfield 93, 3) := by decide +kernel
theorem dX11_opens_15 : decode cX11_opens 15 = .ok (.invokevirtual 114, 3) := by decide +kernel
theorem dX11_opens_18 : decode cX11_opens 18 = .ok (.ireturn, 1) := by decide +kernel
theorem dX11_opens_19 : decode cX11_opens 19 = .ok (.aload_n 0, 1) := by decide +kernel
theorem dX11_opens_20 : decode cX11_opens 20 = .ok (.dup, 1) := by decide +kernel
theorem dX11_opens_21 : decode cX11_opens 21 = .ok (.getfield 153, 3) := by decide +kernel
theorem dX11_opens_24 : decode cX11_opens 24 = .ok (.iconst 1, 1) := by decide +kernel
theorem dX11_opens_25 : decode cX11_opens 25 = .ok (.iadd, 1) := by decide +kernel
theorem dX11_opens_26 : decode cX11_opens 26 = .ok (.putfield 153, 3) := by decide +kernel
theorem dX11_opens_29 : decode cX11_opens 29 = .ok (.aload_n 0, 1) := by decide +kernel
theorem dX11_opens_30 : decode cX11_opens 30 = .ok (.getfield 29, 3) := by decide +kernel
theorem dX11_opens_33 : decode cX11_opens 33 = .ok (.aload_n 0, 1) := by decide +kernel
theorem dX11_opens_34 : decode cX11_opens 34 = .ok (.getfield 156, 3) := by decide +kernel
theorem dX11_opens_37 : decode cX11_opens 37 = .ok (.iload_n 1, 1) := by decide +kernel
theorem dX11_opens_38 : decode cX11_opens 38 = .ok (.iastore, 1) := by decide +kernel
theorem dX11_opens_39 : decode cX11_opens 39 = .ok (.aload_n 0, 1) := by decide +kernel
theorem dX11_opens_40 : decode cX11_opens 40 = .ok (.dup, 1) := by decide +kernel
theorem dX11_opens_41 : decode cX11_opens 41 = .ok (.getfield 156, 3) := by decide +kernel
theorem dX11_opens_44 : decode cX11_opens 44 = .ok (.iconst 1, 1) := by decide +kernel
theorem dX11_opens_45 : decode cX11_opens 45 = .ok (.iadd, 1) := by decide +kernel
theorem dX11_opens_46 : decode cX11_opens 46 = .ok (.putfield 156, 3) := by decide +kernel
theorem dX11_opens_49 : decode cX11_opens 49 = .ok (.iconst 1, 1) := by decide +kernel
theorem dX11_opens_50 : decode cX11_opens 50 = .ok (.ireturn, 1) := by decide +kernel
theorem dX11_strength_0 : decode cX11_strength 0 = .ok (.iload_n 0, 1) := by decide +kernel
theorem dX11_strength_1 : decode cX11_strength 1 = .ok (.bipush 13, 2) := by decide +kernel
theorem dX11_strength_3 : decode cX11_strength 3 = .ok (.if_icmp .ne 7, 3) := by decide +kernel
theorem dX11_strength_6 : decode cX11_strength 6 = .ok (.iconst 1, 1) := by decide +kernel
theorem dX11_strength_7 : decode cX11_strength 7 = .ok (.goto 24, 3) := by decide +kernel
theorem dX11_strength_10 : decode cX11_strength 10 = .ok (.iload_n 0, 1) := by decide +kernel
theorem dX11_strength_11 : decode cX11_strength 11 = .ok (.bipush 12, 2) := by decide +kernel
theorem dX11_strength_13 : decode cX11_strength 13 = .ok (.if_icmp .ne 7, 3) := by decide +kernel
theorem dX11_strength_16 : decode cX11_strength 16 = .ok (.iconst 2, 1) := by decide +kernel
theorem dX11_strength_17 : decode cX11_strength 17 = .ok (.goto 14, 3) := by decide +kernel
theorem dX11_strength_20 : decode cX11_strength 20 = .ok (.iload_n 0, 1) := by decide +kernel
theorem dX11_strength_21 : decode cX11_strength 21 = .ok (.bipush 11, 2) := by decide +kernel
theorem dX11_strength_23 : decode cX11_strength 23 = .ok (.if_icmp .ne 7, 3) := by decide +kernel
theorem dX11_strength_26 : decode cX11_strength 26 = .ok (.iconst 3, 1) := by decide +kernel
theorem dX11_strength_27 : decode cX11_strength 27 = .ok (.goto 4, 3) := by decide +kernel
theorem dX11_strength_30 : decode cX11_strength 30 = .ok (.iconst 0, 1) := by decide +kernel
theorem dX11_strength_31 : decode cX11_strength 31 = .ok (.ireturn, 1) := by decide +kernel
/-! what is open -/
def cnf (f : Nat → Int32) : Nat → Int
  | 0 => 0
  | n + 1 => cnf f n + (if f n = 12 ∨ f n = 13 then 1 else 0)
def cn (z : TS) : Int := cnf (tA z 393) (tI z 386 16).toNatClampNeg
theorem cnf_nn (f : Nat → Int32) (n : Nat) : 0 ≤ cnf f n := by
  induction n with
  | zero => exact Int.le_refl _
  | succ n ih =>
    show 0 ≤ cnf f n + _
    split <;> omega
theorem cn_nn (z : TS) : 0 ≤ cn z := cnf_nn _ _
theorem cnf_congr {f g : Nat → Int32} {n : Nat} (h : ∀ i, i < n → f i = g i) : cnf f n = cnf g n := by
  induction n with
  | zero => rfl
  | succ n ih =>
    show cnf f n + _ = cnf g n + _
    rw [ih (fun i hi => h i (Nat.lt_succ_of_lt hi)), h n (Nat.lt_succ_self n)]
theorem cn_k {z u : TS} (e : tI u 386 16 = tI z 386 16) (r : tA u 393 = tA z 393) : cn u = cn z := by unfold cn; rw [e, r]
theorem cn_push {z u : TS} {a a' w : Int32} (ea : tI z 386 16 = a) (b : iv 0 399 a) (e1 : tA u 393 = upd (tA z 393) a.toNatClampNeg w) (e2 : tI u 386 16 = a') (l : a'.toInt = a.toInt + 1) : cn u = cn z + (if w = 12 ∨ w = 13 then 1 else 0) := by
  have n1 := iv_nat b (by decide)
  have b1 := b.1
  have e3 : a'.toNatClampNeg = a.toNatClampNeg + 1 := by
    have : a'.toNatClampNeg = a'.toInt.toNat := rfl
    omega
  unfold cn
  rw [e2, e1, ea, e3]
  show cnf _ a.toNatClampNeg + _ = _
  have u1 : upd (tA z 393) a.toNatClampNeg w a.toNatClampNeg = w := by unfold upd; rw [if_pos rfl]
  rw [u1, cnf_congr (g := tA z 393) (fun i hi => by unfold upd; rw [if_neg (by omega)])]
theorem cn_pop {z u : TS} {a a' v : Int32} (ea : tI z 386 16 = a) (b : iv 1 400 a) (r : tA u 393 = tA z 393) (e2 : tI u 386 16 = a') (l : a'.toInt = a.toInt - 1) (hv : v = tA z 393 a'.toNatClampNeg) : cn z = cn u + (if v = 12 ∨ v = 13 then 1 else 0) := by
  have n1 := iv_nat b (by decide)
  have b1 := b.1
  have e3 : a.toNatClampNeg = a'.toNatClampNeg + 1 := by
    have : a'.toNatClampNeg = a'.toInt.toNat := rfl
    omega
  unfold cn
  rw [e2, r, ea, e3, hv]
  rfl
def SO (z : TS) : Int := SLk z - (tI z 386 16).toInt
theorem so_q {B : Int} {z0 u : TS} {c c' : Int} (d : Int) (h : B + c ≤ SO z0) (s : Same z0 u) (e : tI u 386 16 = tI z0 386 16) (hm : (tI z0 386 8).toInt + d ≤ (tI u 386 8).toInt) (hc : c' ≤ c + d) : B + c' ≤ SO u := by
  have q := sl_q (z := z0) (c := 0) (c' := d) d (by omega) s hm (by omega)
  unfold SO at *
  rw [e]
  omega
theorem so_p {B c : Int} {z0 u : TS} (h : B + c ≤ SO z0) (h2 : SLk z0 ≤ SLk u) (e : tI u 386 16 = tI z0 386 16) : B + c ≤ SO u := by
  unfold SO at *
  rw [e]
  omega
theorem so_pu {B c : Int} {z0 u : TS} (h : B + c ≤ SO z0) (h2 : SLk u = SLk z0 - 1) (e : tI u 386 16 = tI z0 386 16) : B + (c - 1) ≤ SO u := by
  unfold SO at *
  rw [e]
  omega
theorem so_op {B c c' : Int} {z0 u : TS} (h : B + c ≤ SO z0) (s : Same z0 u) (e8 : tI u 386 8 = tI z0 386 8) {d : Int} (e : (tI u 386 16).toInt = (tI z0 386 16).toInt + d) (hc : c' = c - d) : B + c' ≤ SO u := by
  have q := sl_q (z := z0) (c := 0) (c' := 0) 0 (by omega) s (by rw [e8]; omega) (by omega)
  unfold SO at *
  omega
theorem so_s {z : TS} (o : Ok z) (h : 0 ≤ SO z) : 0 ≤ SLk z := by
  have b := (o.i (j := 386) 11 16 rfl).1
  have e : ilo 11 16 = 0 := by decide
  unfold SO at h
  omega
theorem so_1 {z : TS} (o : Ok z) (h : 1 ≤ SO z) : 1 ≤ SLk z := by
  have b := (o.i (j := 386) 11 16 rfl).1
  have e : ilo 11 16 = 0 := by decide
  unfold SO at h
  omega
theorem so_o {z : TS} (o : Ok z) (h : 0 ≤ SO z) (ls : LSx z) : iv 0 399 (tI z 386 16) := by
  have b := (o.i (j := 386) 11 16 rfl).1
  have b2 := (o.i (j := 386) 11 1 rfl).2
  have e : ilo 11 16 = 0 := by decide
  have e2 : ihi 11 1 = 400 := by decide
  unfold SO SLk at h
  unfold LSx at ls
  exact ⟨by omega, by omega⟩
theorem so_o1 {z : TS} (o : Ok z) (h : 1 ≤ SO z) : iv 0 399 (tI z 386 16) := by
  have b := (o.i (j := 386) 11 16 rfl).1
  have b2 := (o.i (j := 386) 11 8 rfl).2
  have e : ilo 11 16 = 0 := by decide
  have e2 : ihi 11 8 = 400 := by decide
  unfold SO SLk at h
  exact ⟨by omega, by omega⟩
def fL (r k : Nat) : Bool := !(r == 11 && (k == 13 || k == 16))
abbrev KPL : TS → TS → Prop := KPf fL gP1
theorem KPU.l {z u : TS} (h : KPU z u) : KPL z u := h.mono (fun _ _ _ => rfl) (fun _ q => q)
theorem KPL.p2 {z u : TS} (h : KPL z u) : KP2 z u := h.mono (fun r k q => by unfold fP2 at q; unfold fL; simp at q ⊢; omega) (fun r q => g21 r q)
def TOPx (z : TS) : Prop := (tI z 386 16).toInt ≤ 0 ∨ ¬ (tA z 393 ((tI z 386 16).toInt - 1).toNat = 12 ∨ tA z 393 ((tI z 386 16).toInt - 1).toNat = 13)
def NBx (z u : TS) : Prop := ∀ k : Nat, (k : Int) < (tI z 386 16).toInt → tA z 393 k = 91 → (k : Int) < (tI u 386 16).toInt
theorem c1213 {v : Int32} (h : v = 12 ∨ v = 13) : iv 12 13 v := by rcases h with h | h <;> (subst h; exact ⟨by decide, by decide⟩)
theorem if_no {v : Int32} (h : v = 11) : (if v = 12 ∨ v = 13 then (1 : Int) else 0) = 0 := by subst h; decide
theorem if_yes {v : Int32} (h : v = 12 ∨ v = 13) : (if v = 12 ∨ v = 13 then (1 : Int) else 0) = 1 := if_pos h
set_option maxHeartbeats 4000000 in
set_option maxRecDepth 100000 in
theorem v_opens_11 (l : Launch) (D : va_G) (K : Nat → ClassId) (ad : Nat → Nat) (z : TS) (o : Ok z) (ho : iv 0 399 (tI z 386 16)) : cI l yX11_opens cX11_opens 2 .boolean ({ frames := 1, cells := 0, slots := 0, locals := 22 }) D K ad z [.ref (ad 386), .int 11] (fun r u => Ok u ∧ KOp z u ∧ iv 0 1 r ∧ (¬ r = 0 → (tI u 386 16).toInt = (tI z 386 16).toInt + 1 ∧ cn u = cn z) ∧ (r = 0 → tI u 386 16 = tI z 386 16 ∧ cn u = cn z)) := by
  refine t_enterI (by decide) (Nat.le_of_ble_eq_true rfl) rfl rfl ?_
  intro p e s m args below meth c A R Q H locs ls E hfr hlo RET G hl
  have E : mE p s m meth c cX11_opens args 2 RX11 D K A := E
  have hl : lv_has ls 2 [(0, .ref (ad 386)), (1, .int 11)] := hl
  refine lv_aload_n E.1 E.2.1 dX11_opens_0 rfl (lv_at hl 0 rfl) ?_
  refine t_get E G 11 13 (rfl : ro 386 = 11) (C := RX11) (T := TX11) (N := 37) rfl (by decide) (by decide) (by decide) mw_fl_11_153 (fvl_i rfl) dX11_opens_1 ?_
  refine lv_topi (fun v1 e2 => ?_)
  refine lv_bipush (v := 10) E.1 E.2.1 dX11_opens_4 (by decide) ?_
  refine lv_icmp_ne (tgt := 19) E.1 E.2.1 dX11_opens_6 (by decide) (fun c3 => ?_) (fun c3 => ?_)
  · skip
    refine lv_aload_n E.1 E.2.1 dX11_opens_19 rfl (lv_at hl 0 rfl) ?_
    refine lv_dup E.1 E.2.1 dX11_opens_20 rfl ?_
    refine t_get E G 11 13 (rfl : ro 386 = 11) (C := RX11) (T := TX11) (N := 37) rfl (by decide) (by decide) (by decide) mw_fl_11_153 (fvl_i rfl) dX11_opens_21 ?_
    refine m_ci v1 e2.symm ?_
    refine lv_iconst (v := 1) E.1 E.2.1 dX11_opens_24 (by decide) ?_
    refine lv_iadd E.1 E.2.1 dX11_opens_25 ?_
    refine lv_topi (fun v4 e5 => ?_)
    refine t_puti E G 11 13 (rfl : ro 386 = 11) (C := RX11) (T := TX11) (N := 37) rfl (by decide) (by decide) (by decide) rfl rfl mw_fl_11_153 rfl dX11_opens_26 (fun H locs G => ?_)
    obtain ⟨zz7, G, oo8, kk9, h10, h11, h6⟩ : ∃ u : TS, mG D A s H locs (wd K ad u) ∧ Ok u ∧ KOp z u ∧ tI u 386 16 = (tI z 386 16) ∧ tI u 386 13 = v4 ∧ (tA u 393 = tA z 393) := ⟨_, G, ok_i o 11 (rfl : ro 386 = 11) (iv_mono (iv_full v4) (by decide) (by decide)) (by decide), KF.tr KF.rf (KF_i 11 (rfl : ro 386 = 11) (by decide)), (sI_k rfl (by decide)), sI_self, rfl⟩
    refine lv_aload_n E.1 E.2.1 dX11_opens_29 rfl (lv_at hl 0 rfl) ?_
    refine t_get E G 11 15 (rfl : ro 386 = 11) (C := RX11) (T := TX11) (N := 37) rfl (by decide) (by decide) (by decide) mw_fl_11_29 (v := .ref (ad 393)) (fvl_o (n := 7) rfl) dX11_opens_30 ?_
    refine lv_aload_n E.1 E.2.1 dX11_opens_33 rfl (lv_at hl 0 rfl) ?_
    refine t_get E G 11 16 (rfl : ro 386 = 11) (C := RX11) (T := TX11) (N := 37) rfl (by decide) (by decide) (by decide) mw_fl_11_156 (fvl_i rfl) dX11_opens_34 ?_
    refine lv_topi (fun v12 e13 => ?_)
    have b14 : iv 0 400 v12 := by rw [e13]; exact oo8.i 11 16 (rfl : ro 386 = 11)
    have b15 : iv 0 399 v12 := by rw [(e13.trans h10)]; exact ho
    refine lv_iload_n E.1 E.2.1 dX11_opens_37 rfl (lv_at hl 1 rfl) ?_
    refine t_iast E G 51 (rfl : ro 393 = 51) (by decide) (by decide) rfl (n := 400) rfl (iv_vp b15 (by decide) (by decide)) dX11_opens_38 (fun H locs G => ?_)
    obtain ⟨zz17, G, oo18, kk19, h20, h21, h16⟩ : ∃ u : TS, mG D A s H locs (wd K ad u) ∧ Ok u ∧ KOp z u ∧ tI u 386 16 = v12 ∧ tI u 386 13 = v4 ∧ (tA u 393 = upd (tA z 393) v12.toNatClampNeg 11) := ⟨_, G, ok_u oo8 51 (rfl : ro 393 = 51) (wr_u (by decide) (iv_mono (iv_lit (lo := 11) (hi := 11) 11 (by decide) (by decide)) (by decide) (by decide))) (by decide), KF.tr kk9 (KF_r 51 (rfl : ro 393 = 51) (by decide)), e13.symm, h11, (by rw [sR_row, h6])⟩
    refine lv_aload_n E.1 E.2.1 dX11_opens_39 rfl (lv_at hl 0 rfl) ?_
    refine lv_dup E.1 E.2.1 dX11_opens_40 rfl ?_
    refine t_get E G 11 16 (rfl : ro 386 = 11) (C := RX11) (T := TX11) (N := 37) rfl (by decide) (by decide) (by decide) mw_fl_11_156 (fvl_i rfl) dX11_opens_41 ?_
    refine m_ci v12 h20 ?_
    refine lv_iconst (v := 1) E.1 E.2.1 dX11_opens_44 (by decide) ?_
    refine lv_iadd E.1 E.2.1 dX11_opens_45 ?_
    refine lv_topi (fun v22 e23 => ?_)
    have b24 : iv 1 400 v22 := by rw [e23]; exact iv_add b15 (iv_lit (lo := 1) (hi := 1) 1 (by decide) (by decide)) (by decide) (by decide) (by decide) (by decide)
    have l25 : v22.toInt = 1 + 1 * v12.toInt := (show v22.toInt = v12.toInt + 1 by rw [e23]; exact ti_addc 1 (by decide) b15 (by decide) (by decide)).trans (by omega)
    refine t_puti E G 11 16 (rfl : ro 386 = 11) (C := RX11) (T := TX11) (N := 37) rfl (by decide) (by decide) (by decide) rfl rfl mw_fl_11_156 rfl dX11_opens_46 (fun H locs G => ?_)
    obtain ⟨zz27, G, oo28, kk29, h30, h31, h26⟩ : ∃ u : TS, mG D A s H locs (wd K ad u) ∧ Ok u ∧ KOp z u ∧ tI u 386 13 = v4 ∧ tI u 386 16 = v22 ∧ (tA u 393 = upd (tA z 393) v12.toNatClampNeg 11) := ⟨_, G, ok_i oo18 11 (rfl : ro 386 = 11) (iv_mono b24 (by decide) (by decide)) (by decide), KF.tr kk19 (KF_i 11 (rfl : ro 386 = 11) (by decide)), (sI_k h21 (by decide)), sI_self, h16⟩
    refine lv_iconst (v := 1) E.1 E.2.1 dX11_opens_49 (by decide) ?_
    exact RET G ⟨oo28, kk29, (iv_mono (iv_lit (lo := 1) (hi := 1) 1 (by decide) (by decide)) (by decide) (by decide)), (fun _ => ⟨by have q := congrArg Int32.toInt h31; have q2 := congrArg Int32.toInt (e13.trans h10); omega, by have h := cn_push ((e13.trans h10)).symm b15 h26 h31 (l25.trans (by omega)); rw [h]; exact Int.add_zero _⟩), (fun h => absurd h (by decide))⟩ (by decide) dX11_opens_50
  · skip
    have b32 : iv 10 10 v1 := iv_eq c3 (iv_lit (lo := 10) (hi := 10) 10 (by decide) (by decide))
    refine lv_aload_n E.1 E.2.1 dX11_opens_9 rfl (lv_at hl 0 rfl) ?_
    refine lv_iconst (v := 2) E.1 E.2.1 dX11_opens_10 (by decide) ?_
    refine lv_aload_n E.1 E.2.1 dX11_opens_11 rfl (lv_at hl 0 rfl) ?_
    refine t_get E G 11 8 (rfl : ro 386 = 11) (C := RX11) (T := TX11) (N := 37) rfl (by decide) (by decide) (by decide) mw_fl_11_93 (fvl_i rfl) dX11_opens_12 ?_
    refine lv_topi (fun v33 e34 => ?_)
    have b35 : iv 0 400 v33 := by rw [e34]; exact o.i 11 8 (rfl : ro 386 = 11)
    refine t_vi E G hl (v_fails l D K ad z o (2 : Int32) v33) 11 (rfl : ro 386 = 11) (by decide) rfl rfl 2 rfl mw_code_X11_fails mw_ini_11 mw_ml_11_114 mw_inst_X11_fails mw_sel_X11_fails hd_X11_fails ⟨Nat.le_trans (by decide) hfr, Nat.le_trans (by decide) hlo⟩ rfl rfl rfl (Nat.le_of_ble_eq_true rfl) dX11_opens_15 (fun r37 zz36 H locs hp38 G => ?_)
    obtain ⟨oo39, kk40, b41⟩ := hp38
    have kk42 : KOp z zz36 := KF.tr KF.rf (KA9.op kk40)
    have h43 : tI zz36 386 16 = (tI z 386 16) := KF.i kk40 11 (rfl : ro 386 = 11) (by decide) rfl
    have h44 : tI zz36 386 13 = v1 := KF.i kk40 11 (rfl : ro 386 = 11) (by decide) e2.symm
    have h45 : tI zz36 386 8 = v33 := KF.i kk40 11 (rfl : ro 386 = 11) (by decide) e34.symm
    exact RET G ⟨oo39, kk42, (iv_mono b41 (by decide) (by decide)), (fun h => absurd (zero_of b41) h), (fun _ => ⟨kk40.1 386 16 rfl, cn_k (kk40.1 386 16 rfl) (kk40.2.1 393 rfl).1⟩)⟩ (nar_b b41) dX11_opens_18
set_option maxHeartbeats 4000000 in
set_option maxRecDepth 100000 in
theorem v_opens_91 (l : Launch) (D : va_G) (K : Nat → ClassId) (ad : Nat → Nat) (z : TS) (o : Ok z) (ho : iv 0 399 (tI z 386 16)) : cI l yX11_opens cX11_opens 2 .boolean ({ frames := 1, cells := 0, slots := 0, locals := 22 }) D K ad z [.ref (ad 386), .int 91] (fun r u => Ok u ∧ KOp z u ∧ iv 0 1 r ∧ (¬ r = 0 → (tI u 386 16).toInt = (tI z 386 16).toInt + 1 ∧ cn u = cn z) ∧ (r = 0 → tI u 386 16 = tI z 386 16 ∧ cn u = cn z)) := by
  refine t_enterI (by decide) (Nat.le_of_ble_eq_true rfl) rfl rfl ?_
  intro p e s m args below meth c A R Q H locs ls E hfr hlo RET G hl
  have E : mE p s m meth c cX11_opens args 2 RX11 D K A := E
  have hl : lv_has ls 2 [(0, .ref (ad 386)), (1, .int 91)] := hl
  refine lv_aload_n E.1 E.2.1 dX11_opens_0 rfl (lv_at hl 0 rfl) ?_
  refine t_get E G 11 13 (rfl : ro 386 = 11) (C := RX11) (T := TX11) (N := 37) rfl (by decide) (by decide) (by decide) mw_fl_11_153 (fvl_i rfl) dX11_opens_1 ?_
  refine lv_topi (fun v1 e2 => ?_)
  refine lv_bipush (v := 10) E.1 E.2.1 dX11_opens_4 (by decide) ?_
  refine lv_icmp_ne (tgt := 19) E.1 E.2.1 dX11_opens_6 (by decide) (fun c3 => ?_) (fun c3 => ?_)
  · skip
    refine lv_aload_n E.1 E.2.1 dX11_opens_19 rfl (lv_at hl 0 rfl) ?_
    refine lv_dup E.1 E.2.1 dX11_opens_20 rfl ?_
    refine t_get E G 11 13 (rfl : ro 386 = 11) (C := RX11) (T := TX11) (N := 37) rfl (by decide) (by decide) (by decide) mw_fl_11_153 (fvl_i rfl) dX11_opens_21 ?_
    refine m_ci v1 e2.symm ?_
    refine lv_iconst (v := 1) E.1 E.2.1 dX11_opens_24 (by decide) ?_
    refine lv_iadd E.1 E.2.1 dX11_opens_25 ?_
    refine lv_topi (fun v4 e5 => ?_)
    refine t_puti E G 11 13 (rfl : ro 386 = 11) (C := RX11) (T := TX11) (N := 37) rfl (by decide) (by decide) (by decide) rfl rfl mw_fl_11_153 rfl dX11_opens_26 (fun H locs G => ?_)
    obtain ⟨zz7, G, oo8, kk9, h10, h11, h6⟩ : ∃ u : TS, mG D A s H locs (wd K ad u) ∧ Ok u ∧ KOp z u ∧ tI u 386 16 = (tI z 386 16) ∧ tI u 386 13 = v4 ∧ (tA u 393 = tA z 393) := ⟨_, G, ok_i o 11 (rfl : ro 386 = 11) (iv_mono (iv_full v4) (by decide) (by decide)) (by decide), KF.tr KF.rf (KF_i 11 (rfl : ro 386 = 11) (by decide)), (sI_k rfl (by decide)), sI_self, rfl⟩
    refine lv_aload_n E.1 E.2.1 dX11_opens_29 rfl (lv_at hl 0 rfl) ?_
    refine t_get E G 11 15 (rfl : ro 386 = 11) (C := RX11) (T := TX11) (N := 37) rfl (by decide) (by decide) (by decide) mw_fl_11_29 (v := .ref (ad 393)) (fvl_o (n := 7) rfl) dX11_opens_30 ?_
    refine lv_aload_n E.1 E.2.1 dX11_opens_33 rfl (lv_at hl 0 rfl) ?_
    refine t_get E G 11 16 (rfl : ro 386 = 11) (C := RX11) (T := TX11) (N := 37) rfl (by decide) (by decide) (by decide) mw_fl_11_156 (fvl_i rfl) dX11_opens_34 ?_
    refine lv_topi (fun v12 e13 => ?_)
    have b14 : iv 0 400 v12 := by rw [e13]; exact oo8.i 11 16 (rfl : ro 386 = 11)
    have b15 : iv 0 399 v12 := by rw [(e13.trans h10)]; exact ho
    refine lv_iload_n E.1 E.2.1 dX11_opens_37 rfl (lv_at hl 1 rfl) ?_
    refine t_iast E G 51 (rfl : ro 393 = 51) (by decide) (by decide) rfl (n := 400) rfl (iv_vp b15 (by decide) (by decide)) dX11_opens_38 (fun H locs G => ?_)
    obtain ⟨zz17, G, oo18, kk19, h20, h21, h16⟩ : ∃ u : TS, mG D A s H locs (wd K ad u) ∧ Ok u ∧ KOp z u ∧ tI u 386 16 = v12 ∧ tI u 386 13 = v4 ∧ (tA u 393 = upd (tA z 393) v12.toNatClampNeg 91) := ⟨_, G, ok_u oo8 51 (rfl : ro 393 = 51) (wr_u (by decide) (iv_mono (iv_lit (lo := 91) (hi := 91) 91 (by decide) (by decide)) (by decide) (by decide))) (by decide), KF.tr kk9 (KF_r 51 (rfl : ro 393 = 51) (by decide)), e13.symm, h11, (by rw [sR_row, h6])⟩
    refine lv_aload_n E.1 E.2.1 dX11_opens_39 rfl (lv_at hl 0 rfl) ?_
    refine lv_dup E.1 E.2.1 dX11_opens_40 rfl ?_
    refine t_get E G 11 16 (rfl : ro 386 = 11) (C := RX11) (T := TX11) (N := 37) rfl (by decide) (by decide) (by decide) mw_fl_11_156 (fvl_i rfl) dX11_opens_41 ?_
    refine m_ci v12 h20 ?_
    refine lv_iconst (v := 1) E.1 E.2.1 dX11_opens_44 (by decide) ?_
    refine lv_iadd E.1 E.2.1 dX11_opens_45 ?_
    refine lv_topi (fun v22 e23 => ?_)
    have b24 : iv 1 400 v22 := by rw [e23]; exact iv_add b15 (iv_lit (lo := 1) (hi := 1) 1 (by decide) (by decide)) (by decide) (by decide) (by decide) (by decide)
    have l25 : v22.toInt = 1 + 1 * v12.toInt := (show v22.toInt = v12.toInt + 1 by rw [e23]; exact ti_addc 1 (by decide) b15 (by decide) (by decide)).trans (by omega)
    refine t_puti E G 11 16 (rfl : ro 386 = 11) (C := RX11) (T := TX11) (N := 37) rfl (by decide) (by decide) (by decide) rfl rfl mw_fl_11_156 rfl dX11_opens_46 (fun H locs G => ?_)
    obtain ⟨zz27, G, oo28, kk29, h30, h31, h26⟩ : ∃ u : TS, mG D A s H locs (wd K ad u) ∧ Ok u ∧ KOp z u ∧ tI u 386 13 = v4 ∧ tI u 386 16 = v22 ∧ (tA u 393 = upd (tA z 393) v12.toNatClampNeg 91) := ⟨_, G, ok_i oo18 11 (rfl : ro 386 = 11) (iv_mono b24 (by decide) (by decide)) (by decide), KF.tr kk19 (KF_i 11 (rfl : ro 386 = 11) (by decide)), (sI_k h21 (by decide)), sI_self, h16⟩
    refine lv_iconst (v := 1) E.1 E.2.1 dX11_opens_49 (by decide) ?_
    exact RET G ⟨oo28, kk29, (iv_mono (iv_lit (lo := 1) (hi := 1) 1 (by decide) (by decide)) (by decide) (by decide)), (fun _ => ⟨by have q := congrArg Int32.toInt h31; have q2 := congrArg Int32.toInt (e13.trans h10); omega, by have h := cn_push ((e13.trans h10)).symm b15 h26 h31 (l25.trans (by omega)); rw [h]; exact Int.add_zero _⟩), (fun h => absurd h (by decide))⟩ (by decide) dX11_opens_50
  · skip
    have b32 : iv 10 10 v1 := iv_eq c3 (iv_lit (lo := 10) (hi := 10) 10 (by decide) (by decide))
    refine lv_aload_n E.1 E.2.1 dX11_opens_9 rfl (lv_at hl 0 rfl) ?_
    refine lv_iconst (v := 2) E.1 E.2.1 dX11_opens_10 (by decide) ?_
    refine lv_aload_n E.1 E.2.1 dX11_opens_11 rfl (lv_at hl 0 rfl) ?_
    refine t_get E G 11 8 (rfl : ro 386 = 11) (C := RX11) (T := TX11) (N := 37) rfl (by decide) (by decide) (by decide) mw_fl_11_93 (fvl_i rfl) dX11_opens_12 ?_
    refine lv_topi (fun v33 e34 => ?_)
    have b35 : iv 0 400 v33 := by rw [e34]; exact o.i 11 8 (rfl : ro 386 = 11)
    refine t_vi E G hl (v_fails l D K ad z o (2 : Int32) v33) 11 (rfl : ro 386 = 11) (by decide) rfl rfl 2 rfl mw_code_X11_fails mw_ini_11 mw_ml_11_114 mw_inst_X11_fails mw_sel_X11_fails hd_X11_fails ⟨Nat.le_trans (by decide) hfr, Nat.le_trans (by decide) hlo⟩ rfl rfl rfl (Nat.le_of_ble_eq_true rfl) dX11_opens_15 (fun r37 zz36 H locs hp38 G => ?_)
    obtain ⟨oo39, kk40, b41⟩ := hp38
    have kk42 : KOp z zz36 := KF.tr KF.rf (KA9.op kk40)
    have h43 : tI zz36 386 16 = (tI z 386 16) := KF.i kk40 11 (rfl : ro 386 = 11) (by decide) rfl
    have h44 : tI zz36 386 13 = v1 := KF.i kk40 11 (rfl : ro 386 = 11) (by decide) e2.symm
    have h45 : tI zz36 386 8 = v33 := KF.i kk40 11 (rfl : ro 386 = 11) (by decide) e34.symm
    exact RET G ⟨oo39, kk42, (iv_mono b41 (by decide) (by decide)), (fun h => absurd (zero_of b41) h), (fun _ => ⟨kk40.1 386 16 rfl, cn_k (kk40.1 386 16 rfl) (kk40.2.1 393 rfl).1⟩)⟩ (nar_b b41) dX11_opens_18
set_option maxHeartbeats 4000000 in
set_option maxRecDepth 100000 in
theorem v_strength (l : Launch) (D : va_G) (K : Nat → ClassId) (ad : Nat → Nat) (z : TS) (o : Ok z) (x1 : Int32) : cI l yX11_strength cX11_strength 1 .int ({ frames := 0, cells := 0, slots := 0, locals := 0 }) D K ad z [.int x1] (fun r u => u = z ∧ iv 0 3 r ∧ (¬ r = 0 → x1 = 11 ∨ x1 = 12 ∨ x1 = 13) ∧ (r = 0 → ¬ (x1 = 12 ∨ x1 = 13))) := by
  refine t_enterI (by decide) (Nat.le_of_ble_eq_true rfl) rfl rfl ?_
  intro p e s m args below meth c A R Q H locs ls E hfr hlo RET G hl
  have E : mE p s m meth c cX11_strength args 1 RX11 D K A := E
  have hl : lv_has ls 1 [(0, .int x1)] := hl
  refine lv_iload_n E.1 E.2.1 dX11_strength_0 rfl (lv_at hl 0 rfl) ?_
  refine lv_bipush (v := 13) E.1 E.2.1 dX11_strength_1 (by decide) ?_
  refine lv_icmp_ne (tgt := 10) E.1 E.2.1 dX11_strength_3 (by decide) (fun c1 => ?_) (fun c1 => ?_)
  · skip
    refine lv_iload_n E.1 E.2.1 dX11_strength_10 rfl (lv_at hl 0 rfl) ?_
    refine lv_bipush (v := 12) E.1 E.2.1 dX11_strength_11 (by decide) ?_
    refine lv_icmp_ne (tgt := 20) E.1 E.2.1 dX11_strength_13 (by decide) (fun c2 => ?_) (fun c2 => ?_)
    · skip
      refine lv_iload_n E.1 E.2.1 dX11_strength_20 rfl (lv_at hl 0 rfl) ?_
      refine lv_bipush (v := 11) E.1 E.2.1 dX11_strength_21 (by decide) ?_
      refine lv_icmp_ne (tgt := 30) E.1 E.2.1 dX11_strength_23 (by decide) (fun c3 => ?_) (fun c3 => ?_)
      · skip
        refine lv_iconst (v := 0) E.1 E.2.1 dX11_strength_30 (by decide) ?_
        exact RET G ⟨rfl, (iv_mono (iv_lit (lo := 0) (hi := 0) 0 (by decide) (by decide)) (by decide) (by decide)), (fun h => absurd rfl h), (fun _ q => q.elim c2 c1)⟩ rfl dX11_strength_31
      · skip
        have b4 : iv 11 11 x1 := iv_eq c3 (iv_lit (lo := 11) (hi := 11) 11 (by decide) (by decide))
        refine lv_iconst (v := 3) E.1 E.2.1 dX11_strength_26 (by decide) ?_
        refine lv_goto (tgt := 31) E.1 E.2.1 dX11_strength_27 (by decide) ?_
        exact RET G ⟨rfl, (iv_mono (iv_lit (lo := 3) (hi := 3) 3 (by decide) (by decide)) (by decide) (by decide)), (fun _ => (Or.inl c3)), (fun h => absurd h (by decide))⟩ rfl dX11_strength_31
    · skip
      have b5 : iv 12 12 x1 := iv_eq c2 (iv_lit (lo := 12) (hi := 12) 12 (by decide) (by decide))
      refine lv_iconst (v := 2) E.1 E.2.1 dX11_strength_16 (by decide) ?_
      refine lv_goto (tgt := 31) E.1 E.2.1 dX11_strength_17 (by decide) ?_
      exact RET G ⟨rfl, (iv_mono (iv_lit (lo := 2) (hi := 2) 2 (by decide) (by decide)) (by decide) (by decide)), (fun _ => (Or.inr (Or.inl c2))), (fun h => absurd h (by decide))⟩ rfl dX11_strength_31
  · skip
    have b6 : iv 13 13 x1 := iv_eq c1 (iv_lit (lo := 13) (hi := 13) 13 (by decide) (by decide))
    refine lv_iconst (v := 1) E.1 E.2.1 dX11_strength_6 (by decide) ?_
    refine lv_goto (tgt := 31) E.1 E.2.1 dX11_strength_7 (by decide) ?_
    exact RET G ⟨rfl, (iv_mono (iv_lit (lo := 1) (hi := 1) 1 (by decide) (by decide)) (by decide) (by decide)), (fun _ => (Or.inr (Or.inr c1))), (fun h => absurd h (by decide))⟩ rfl dX11_strength_31
set_option maxHeartbeats 4000000 in
set_option maxRecDepth 100000 in
theorem v_strength_12 (l : Launch) (D : va_G) (K : Nat → ClassId) (ad : Nat → Nat) (z : TS) (o : Ok z) : cI l yX11_strength cX11_strength 1 .int ({ frames := 0, cells := 0, slots := 0, locals := 0 }) D K ad z [.int 12] (fun r u => u = z ∧ iv 2 2 r) := by
  refine t_enterI (by decide) (Nat.le_of_ble_eq_true rfl) rfl rfl ?_
  intro p e s m args below meth c A R Q H locs ls E hfr hlo RET G hl
  have E : mE p s m meth c cX11_strength args 1 RX11 D K A := E
  have hl : lv_has ls 1 [(0, .int 12)] := hl
  refine lv_iload_n E.1 E.2.1 dX11_strength_0 rfl (lv_at hl 0 rfl) ?_
  refine lv_bipush (v := 13) E.1 E.2.1 dX11_strength_1 (by decide) ?_
  refine lv_icmp_ne (tgt := 10) E.1 E.2.1 dX11_strength_3 (by decide) (fun _ => ?_) (fun h => absurd h (by decide))
  refine lv_iload_n E.1 E.2.1 dX11_strength_10 rfl (lv_at hl 0 rfl) ?_
  refine lv_bipush (v := 12) E.1 E.2.1 dX11_strength_11 (by decide) ?_
  refine lv_icmp_ne (tgt := 20) E.1 E.2.1 dX11_strength_13 (by decide) (fun h => absurd (by decide) h) (fun _ => ?_)
  refine lv_iconst (v := 2) E.1 E.2.1 dX11_strength_16 (by decide) ?_
  refine lv_goto (tgt := 31) E.1 E.2.1 dX11_strength_17 (by decide) ?_
  exact RET G ⟨rfl, (iv_mono (iv_lit (lo := 2) (hi := 2) 2 (by decide) (by decide)) (by decide) (by decide))⟩ rfl dX11_strength_31
set_option maxHeartbeats 4000000 in
set_option maxRecDepth 100000 in
theorem v_strength_13 (l : Launch) (D : va_G) (K : Nat → ClassId) (ad : Nat → Nat) (z : TS) (o : Ok z) : cI l yX11_strength cX11_strength 1 .int ({ frames := 0, cells := 0, slots := 0, locals := 0 }) D K ad z [.int 13] (fun r u => u = z ∧ iv 1 1 r) := by
  refine t_enterI (by decide) (Nat.le_of_ble_eq_true rfl) rfl rfl ?_
  intro p e s m args below meth c A R Q H locs ls E hfr hlo RET G hl
  have E : mE p s m meth c cX11_strength args 1 RX11 D K A := E
  have hl : lv_has ls 1 [(0, .int 13)] := hl
  refine lv_iload_n E.1 E.2.1 dX11_strength_0 rfl (lv_at hl 0 rfl) ?_
  refine lv_bipush (v := 13) E.1 E.2.1 dX11_strength_1 (by decide) ?_
  refine lv_icmp_ne (tgt := 10) E.1 E.2.1 dX11_strength_3 (by decide) (fun h => absurd (by decide) h) (fun _ => ?_)
  refine lv_iconst (v := 1) E.1 E.2.1 dX11_strength_6 (by decide) ?_
  refine lv_goto (tgt := 31) E.1 E.2.1 dX11_strength_7 (by decide) ?_
  exact RET G ⟨rfl, (iv_mono (iv_lit (lo := 1) (hi := 1) 1 (by decide) (by decide)) (by decide) (by decide))⟩ rfl dX11_strength_31
set_option maxHeartbeats 4000000 in
set_option maxRecDepth 100000 in
theorem v_isInside (l : Launch) (D : va_G) (K : Nat → ClassId) (ad : Nat → Nat) (z : TS) (o : Ok z) : cI l yX11_isInside cX11_isInside 2 .boolean ({ frames := 0, cells := 0, slots := 0, locals := 0 }) D K ad z [.ref (ad 386)] (fun r u => u = z ∧ iv 0 1 r ∧ (¬ r = 0 → ∃ k : Nat, (k : Int) < (tI z 386 16).toInt ∧ tA z 393 k = 91)) := by
  refine t_enterI (by decide) (Nat.le_of_ble_eq_true rfl) rfl rfl ?_
  intro p e s m args below meth c A R Q H locs ls E hfr hlo RET G hl
  have E : mE p s m meth c cX11_isInside args 2 RX11 D K A := E
  have hl : lv_has ls 2 [(0, .ref (ad 386))] := hl
  refine lv_iconst (v := 0) E.1 E.2.1 dX11_isInside_0 (by decide) ?_
  refine lv_istore_n (lv' := [(1, .int 0), (0, .ref (ad 386))]) E.1 E.2.1 dX11_isInside_1 rfl hl (by decide) rfl (fun ls hl => ?_)
  have LOOP2 : ∀ n : Nat, ∀ (y1 : Int32) (H : Heap) (locs : List Loc) (ls : Array Slot), mG D A s H locs (wd K ad z) → iv 0 400 y1 → 400 < y1.toInt + (n : Int) → lv_has ls 2 [(1, .int y1), (0, .ref (ad 386))] → W p l e R s m args below meth c H locs 0 0 Q (F0 m 2 ls []) := by
    intro n
    induction n with
    | zero =>
      intro y1 H locs ls G b6 m5 hl
      exact absurd m5 (by have := b6.1; have := b6.2; omega)
    | succ n ih2 =>
      intro y1 H locs ls G b6 m5 hl
      refine lv_iload_n E.1 E.2.1 dX11_isInside_2 rfl (lv_at hl 0 rfl) ?_
      refine lv_aload_n E.1 E.2.1 dX11_isInside_3 rfl (lv_at hl 1 rfl) ?_
      refine t_get E G 11 16 (rfl : ro 386 = 11) (C := RX11) (T := TX11) (N := 37) rfl (by decide) (by decide) (by decide) mw_fl_11_156 (fvl_i rfl) dX11_isInside_4 ?_
      refine lv_topi (fun v7 e8 => ?_)
      have b9 : iv 0 400 v7 := by rw [e8]; exact o.i 11 16 (rfl : ro 386 = 11)
      refine lv_icmp_ge (tgt := 29) E.1 E.2.1 dX11_isInside_7 (by decide) (fun c10 => ?_) (fun c10 => ?_)
      · skip
        refine lv_iconst (v := 0) E.1 E.2.1 dX11_isInside_29 (by decide) ?_
        exact RET G ⟨rfl, (iv_mono (iv_lit (lo := 0) (hi := 0) 0 (by decide) (by decide)) (by decide) (by decide)), (fun h => absurd rfl h)⟩ (by decide) dX11_isInside_30
      · skip
        have b11 : iv 0 399 y1 := lt_l (Int32.not_le.mp c10) b6 b9 (by decide)
        have b12 : iv 1 400 v7 := lt_r (Int32.not_le.mp c10) b6 b9 (by decide)
        refine lv_aload_n E.1 E.2.1 dX11_isInside_10 rfl (lv_at hl 1 rfl) ?_
        refine t_get E G 11 15 (rfl : ro 386 = 11) (C := RX11) (T := TX11) (N := 37) rfl (by decide) (by decide) (by decide) mw_fl_11_29 (v := .ref (ad 393)) (fvl_o (n := 7) rfl) dX11_isInside_11 ?_
        refine lv_iload_n E.1 E.2.1 dX11_isInside_14 rfl (lv_at hl 0 rfl) ?_
        refine t_iald E G 51 (rfl : ro 393 = 51) (by decide) (by decide) rfl (n := 400) rfl (iv_vp b11 (by decide) (by decide)) dX11_isInside_15 ?_
        refine lv_topi (fun v13 e14 => ?_)
        refine lv_bipush (v := 91) E.1 E.2.1 dX11_isInside_16 (by decide) ?_
        refine lv_icmp_ne (tgt := 23) E.1 E.2.1 dX11_isInside_18 (by decide) (fun c15 => ?_) (fun c15 => ?_)
        · skip
          obtain ⟨v16, e17⟩ : ∃ w : Int32, w = y1 + (1 : Int32) := ⟨_, rfl⟩
          refine lv_iinc (v := v16) (lv' := [(1, .int v16), (0, .ref (ad 386))]) E.1 E.2.1 dX11_isInside_23 hl (k := 0) rfl (by rw [e17]; rfl) (by decide) rfl (fun ls hl => ?_)
          have b18 : iv 1 400 v16 := by rw [e17]; exact iv_add b11 (iv_lit (lo := 1) (hi := 1) 1 (by decide) (by decide)) (by decide) (by decide) (by decide) (by decide)
          have t19 : v16.toInt = y1.toInt + 1 := by rw [e17]; exact ti_addc 1 (by decide) b11 (by decide) (by decide)
          refine lv_goto (tgt := 2) E.1 E.2.1 dX11_isInside_26 (by decide) ?_
          exact ih2 v16 H locs ls G (iv_mono b18 (by decide) (by decide)) (by have := t19; have := m5; omega) (lv_sub hl [0, 1] rfl)
        · skip
          have b20 : iv 91 91 v13 := iv_eq c15 (iv_lit (lo := 91) (hi := 91) 91 (by decide) (by decide))
          refine lv_iconst (v := 1) E.1 E.2.1 dX11_isInside_21 (by decide) ?_
          exact RET G ⟨rfl, (iv_mono (iv_lit (lo := 1) (hi := 1) 1 (by decide) (by decide)) (by decide) (by decide)), (fun _ => ⟨y1.toNatClampNeg, by have h1 := Int32.lt_iff_toInt_lt.mp (Int32.not_le.mp c10); have h2 := congrArg Int32.toInt e8.symm; have h3 := iv_nat b11 (by decide); omega, by rw [e14.symm]; exact c15⟩)⟩ (by decide) dX11_isInside_22
  exact LOOP2 401 0 H locs ls G (iv_mono (iv_lit (lo := 0) (hi := 0) 0 (by decide) (by decide)) (by decide) (by decide)) (by have := (iv_lit (lo := 0) (hi := 0) 0 (by decide) (by decide)).1; omega) (lv_sub hl [0, 1] rfl)
