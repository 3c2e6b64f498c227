theorem wf_kp {f : Nat → Nat → Bool} {g : Nat → Bool} {z u : TS} (wf : WFc z) (k : KPf f g z u) (h48 : g 48 = true) (h49 : g 49 = true) : WFc u := by
  intro t ht c hc
  have r8 : tA u 390 = tA z 390 := (k.2.1 390 h48).1
  have r9 : tA u 391 = tA z 391 := (k.2.1 391 h49).1
  rw [r9] at hc
  have q := wf t ht c hc
  obtain ⟨a1, a2, a3, a4, a5, a6, a7, a8, a9⟩ := k
  unfold clok cle at q ⊢
  rw [r8]
  by_cases e : t = tx z
  · subst e
    have hl : len z (tx z) ≤ len u (tx z) := a7
    have hs : ∀ i, i < len z (tx z) → sgn z (tx z) i = sgn u (tx z) i := fun i hi => (a8 i hi).symm
    refine ⟨clk_congr (fun i hi => hs i (Nat.lt_of_lt_of_le hi q.2.1)) q.1, Nat.le_trans q.2.1 hl, ?_⟩
    rcases q.2.2 with w | w
    · exact Or.inl w
    · exact Or.inr ⟨clk_congr (fun i hi => hs i (Nat.lt_of_lt_of_le hi w.2)) w.1, Nat.le_trans w.2 hl⟩
  · have hl : len u t = len z t := by unfold len; rw [a5 t e]
    rw [hl]
    refine ⟨clk_congr (fun i hi => (a6 t i e (Nat.lt_of_lt_of_le hi q.1.2.1)).symm) q.1, q.2.1, ?_⟩
    rcases q.2.2 with w | w
    · exact Or.inl w
    · exact Or.inr ⟨clk_congr (fun i hi => (a6 t i e (Nat.lt_of_lt_of_le hi w.1.2.1)).symm) w.1, w.2⟩
theorem wf_cw {z : TS} (wf : WFc z) (o : Ok z) {t c : Nat} (d : Nat) {i v : Int32} (hc : (c : Int) = (tA z 391 t).toInt) (h11 : c ≤ 11) (hd : d ≤ 3) (hi : i.toNatClampNeg = 48 * t + 4 * c + d) : WFc (setR z 390 (upd (tA z 390) i.toNatClampNeg v)) := by
  intro t' ht' c' hc'
  have hc2 : (c' : Int) < (tA z 391 t').toInt := by rw [sR_o rfl (by decide)] at hc'; exact hc'
  have b := (rd_u o (j := 391) 49 rfl rfl t').2
  have e12 : ahi0 49 = 12 := by decide
  have key : ∀ d', d' ≤ 3 → tA (setR z 390 (upd (tA z 390) i.toNatClampNeg v)) 390 (48 * t' + 4 * c' + d') = tA z 390 (48 * t' + 4 * c' + d') := by
    intro d' hd'
    rw [sR_row]
    unfold upd
    rw [if_neg]
    intro w
    rw [hi] at w
    have e1 : t' = t := by omega
    have e2 : c' = c := by omega
    rw [e1, ← hc, e2] at hc2
    omega
  have q := wf t' ht' c' hc2
  unfold clok cle len sgn at q ⊢
  have k0 := key 0 (by decide)
  rw [Nat.add_zero] at k0
  rw [k0, key 1 (by decide), key 2 (by decide), key 3 (by decide), sR_o rfl (by decide), sR_o rfl (by decide)]
  exact q
theorem wf_add {z : TS} (wf : WFc z) {t c : Nat} {i w : Int32} (hi : i.toNatClampNeg = t) (hc : (c : Int) = (tA z 391 t).toInt) (hw : w.toInt = c + 1) (ok : clok z t c) : WFc (setR z 391 (upd (tA z 391) i.toNatClampNeg w)) := by
  intro t' ht' c' hc'
  have same : ∀ t c, clok z t c → clok (setR z 391 (upd (tA z 391) i.toNatClampNeg w)) t c := fun t c q => by
    unfold clok cle len sgn at q ⊢
    rw [sR_o rfl (by decide), sR_o rfl (by decide), sR_o rfl (by decide)]
    exact q
  refine same t' c' ?_
  rw [sR_row, hi] at hc'
  unfold upd at hc'
  by_cases e : t' = t
  · rw [if_pos e, hw] at hc'
    by_cases e2 : c' = c
    · rw [e, e2]; exact ok
    · exact wf t' ht' c' (by rw [e, ← hc]; omega)
  · rw [if_neg e] at hc'
    exact wf t' ht' c' hc'
theorem clok_mk {z : TS} {t c : Nat} {v0 v1 v2 v3 : Int32} (ht : t = tx z) (h0 : tA z 390 (48 * t + 4 * c + 0) = v0) (h1 : tA z 390 (48 * t + 4 * c + 1) = v1) (h2 : tA z 390 (48 * t + 4 * c + 2) = v2) (h3 : tA z 390 (48 * t + 4 * c + 3) = v3) (k1 : clk (Fz z) v0.toNatClampNeg v1.toNatClampNeg ∧ v1.toNatClampNeg ≤ Ln z) (k2 : v2.toInt < 0 ∨ (clk (Fz z) v2.toNatClampNeg v3.toNatClampNeg ∧ v3.toNatClampNeg ≤ Ln z)) : clok z t c := by
  subst ht
  unfold clok cle
  rw [Nat.add_zero] at h0
  rw [h0, h1, h2, h3]
  exact ⟨k1.1, k1.2, k2⟩
theorem clk_sum {f : Nat → Nat → Bool} {g : Nat → Bool} {z u : TS} (q : Gd 1 0 z u) (k : KPf f g z u) (pi : PIx u) (o : Ok u) (h0 : 0 ≤ Hh z) (hs : 0 ≤ SLk u) : (clk (Fz u) (Ln z) (Ln u) ∧ Ln u ≤ Ln u) ∧ 0 ≤ Hh u := by
  obtain ⟨k1, k2⟩ := k.fz
  have b := (o.i (j := 386) 11 8 rfl).2
  have e : ihi 11 8 = 400 := by decide
  have eb : Gt (Fz u) (Ln z) = Hh z := Gt_congr (fun i hi => k2 i hi)
  have q1 := q.1
  refine ⟨⟨⟨k1, by unfold SLk at hs; omega, q.2 (Ln z) (Nat.le_refl _) (fun i h1 h2 => by omega) (by show Hh z + 0 ≤ Hh z; omega), fun i _ hi => ?_, ?_⟩, Nat.le_refl _⟩, by omega⟩
  · have := pi.2.2.2.2 i hi
    omega
  · show Gt (Fz u) (Ln z) + 1 ≤ Hh u
    omega
theorem ck_s {z u : TS} (s : Same z u) {b e : Nat} (h : clk (Fz z) b e ∧ e ≤ Ln z) : clk (Fz u) b e ∧ e ≤ Ln u := by rw [s.e.1, s.e.2.1]; exact h
theorem ck_k {f : Nat → Nat → Bool} {g : Nat → Bool} {z u : TS} (k : KPf f g z u) {b e : Nat} (h : clk (Fz z) b e ∧ e ≤ Ln z) : clk (Fz u) b e ∧ e ≤ Ln u :=
  ⟨clk_congr (fun i hi => (k.fz.2 i (Nat.lt_of_lt_of_le hi h.2)).symm) h.1, Nat.le_trans h.2 k.fz.1⟩
theorem hh_s {z u : TS} (s : Same z u) (h : 0 ≤ Hh z) : 0 ≤ Hh u := by rw [s.e.2.2]; exact h
theorem wr48 {i : Nat} {v : Int32} (h : iv 0 400 v) : iv (alo 48 i) (ahi 48 i) v := by
  have e1 : ahi 48 i = 400 := by simp [ahi]
  have e2 : alo 48 i ≤ 0 := by
    have : alo 48 i = if i % 4 = 2 then -1 else 0 := by simp [alo]
    rw [this]; split <;> decide
  rw [e1]; exact iv_mono h e2 (Int.le_refl _)
theorem wr48n {i : Nat} {v : Int32} (h : iv (-1) 400 v) (hi : i % 4 = 2) : iv (alo 48 i) (ahi 48 i) v := by
  have e1 : ahi 48 i = 400 := by simp [ahi]
  have e2 : alo 48 i = -1 := by simp [alo, hi]
  rw [e1, e2]; exact h
theorem ln_of {z : TS} {a L : Int32} (e : tI z 386 11 = a) (eL : L = tA z 389 a.toNatClampNeg) : L.toNatClampNeg = Ln z := by
  unfold Ln len; rw [eL, ← e]; rfl
def gP3 (r : Nat) : Bool := !(r == 46 || (r == 47 || (r == 48 || (r == 49 || r == 51))))
def fP4 (r k : Nat) : Bool := !(r == 11 && (k == 8 || (k == 9 || (k == 10 || (k == 12 || (k == 13 || (k == 14 || k == 16)))))))
abbrev KP3 : TS → TS → Prop := KPf fP2 gP3
abbrev KP4 : TS → TS → Prop := KPf fP4 gP3
theorem g32 (r : Nat) (h : gP3 r = true) : gP2 r = true := by unfold gP3 at h; unfold gP2; simp at h ⊢; omega
theorem KP2.p3 {z u : TS} (h : KP2 z u) : KP3 z u := h.mono (fun _ _ q => q) g32
theorem KP1.p3 {z u : TS} (h : KP1 z u) : KP3 z u := KP2.p3 (KP1.p2 h)
theorem KN8.p3 {z u : TS} (h : KN8 z u) : KP3 z u := KP2.p3 (KN8.p2 h)
theorem KP3.p4 {z u : TS} (h : KP3 z u) : KP4 z u := h.mono (fun r k q => by unfold fP4 at q; unfold fP2; simp at q ⊢; omega) (fun _ q => q)
theorem KN8.p4 {z u : TS} (h : KN8 z u) : KP4 z u := KP3.p4 (KN8.p3 h)
theorem KA9.p4 {z u : TS} (h : KA9 z u) : KP4 z u := KP3.p4 (KP2.p3 (KA9.p2 h))
