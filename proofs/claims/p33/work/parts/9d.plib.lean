/-! a rule's text while it is read -/
def tx (z : TS) : Nat := (tI z 386 11).toNatClampNeg
def Ln (z : TS) : Nat := len z (tx z)
def Fz (z : TS) : Nat → Int32 := sgn z (tx z)
def Hh (z : TS) : Int := Gt (Fz z) (Ln z)
def SLk (z : TS) : Int := (tI z 386 8).toInt - (Ln z : Int)
def PIx (z : TS) : Prop := iv 0 5 (tI z 386 11) ∧ NXx z ∧ Hh z ≤ (tI z 386 12).toInt ∧ (tI z 386 12).toInt ≤ 60 ∧ ∀ i, i ≤ Ln z → Gt (Fz z) i ≤ 60
theorem Gt_congr {f g : Nat → Int32} {n : Nat} (h : ∀ i, i < n → f i = g i) : Gt f n = Gt g n := by
  induction n with
  | zero => rfl
  | succ n ih =>
    show Gt f n + dl (f n) = Gt g n + dl (g n)
    rw [ih (fun i hi => h i (Nat.lt_succ_of_lt hi)), h n (Nat.lt_succ_self n)]
theorem gd_congr {f g : Nat → Int32} {b e : Nat} (h : ∀ i, i < e → f i = g i) (q : gd f b e) : gd g b e := by
  intro i hb hi
  have hf := q i hb hi
  rw [← h i hi, ← Gt_congr (fun k hk => h k (Nat.lt_trans hk hi)), ← Gt_congr (n := b) (fun k hk => h k (by omega))]
  exact hf
theorem clk_congr {f g : Nat → Int32} {b e : Nat} (h : ∀ i, i < e → f i = g i) (q : clk f b e) : clk g b e := by
  obtain ⟨h1, h2, h3, h4, h5⟩ := q
  have eb : Gt f b = Gt g b := Gt_congr (fun k hk => h k (by omega))
  refine ⟨h1, h2, gd_congr h h3, fun i hb hi => ?_, ?_⟩
  · rw [← Gt_congr (n := i) (fun k hk => h k (by omega)), ← eb]; exact h4 i hb hi
  · rw [← eb, ← Gt_congr (n := e) (fun k hk => h k hk)]; exact h5
/-- what stays while a rule's text is read -/
def KPf (f : Nat → Nat → Bool) (g : Nat → Bool) (z u : TS) : Prop := KI f z u ∧ KA g z u ∧ tP u = tP z ∧ tJ u = tJ z ∧ (∀ t, t ≠ tx z → tA u 389 t = tA z 389 t) ∧ (∀ t i, t ≠ tx z → i < 400 → sgn u t i = sgn z t i) ∧ Ln z ≤ len u (tx z) ∧ (∀ i, i < Ln z → sgn u (tx z) i = sgn z (tx z) i) ∧ tx u = tx z
theorem KPf.rf {f : Nat → Nat → Bool} {g : Nat → Bool} {z : TS} : KPf f g z z := ⟨KI.rf, KA.rf, rfl, rfl, fun _ _ => rfl, fun _ _ _ _ => rfl, Nat.le_refl _, fun _ _ => rfl, rfl⟩
theorem KPf.tr {f : Nat → Nat → Bool} {g : Nat → Bool} {z u w : TS} (h1 : KPf f g z u) (h2 : KPf f g u w) : KPf f g z w := by
  obtain ⟨a1, a2, a3, a4, a5, a6, a7, a8, a9⟩ := h1
  obtain ⟨b1, b2, b3, b4, b5, b6, b7, b8, b9⟩ := h2
  have eu : Ln u = len u (tx z) := by unfold Ln; rw [a9]
  rw [a9] at b5 b6 b7 b8
  rw [eu] at b7 b8
  exact ⟨a1.tr b1, a2.tr b2, b3.trans a3, b4.trans a4, fun t ht => (b5 t ht).trans (a5 t ht), fun t i ht hi => (b6 t i ht hi).trans (a6 t i ht hi), Nat.le_trans a7 b7, fun i hi => (b8 i (Nat.lt_of_lt_of_le hi a7)).trans (a8 i hi), b9.trans a9⟩
theorem KPf.mono {f f' : Nat → Nat → Bool} {g g' : Nat → Bool} {z u : TS} (h : KPf f g z u) (hf : ∀ r k, f' r k = true → f r k = true) (hg : ∀ r, g' r = true → g r = true) : KPf f' g' z u :=
  ⟨h.1.mono hf, fun j q => h.2.1 j (hg _ q), h.2.2⟩
def Same (z u : TS) : Prop := tx u = tx z ∧ tA u 388 = tA z 388 ∧ tA u 389 = tA z 389
theorem Same.of {f : Nat → Nat → Bool} {g : Nat → Bool} {z u : TS} (h : KF f g z u) (h1 : f 11 11 = true) (h2 : g 46 = true) (h3 : g 47 = true) : Same z u :=
  ⟨by unfold tx; rw [h.1 386 11 h1], (h.2.1 388 h2).1, (h.2.1 389 h3).1⟩
theorem Same.i {z : TS} {k : Nat} {v : Int32} (hk : 11 ≠ k) : Same z (setI z 386 k v) := ⟨by unfold tx; rw [sI_k rfl hk], rfl, rfl⟩
theorem Same.r {z : TS} {j : Nat} {g : Nat → Int32} (h : 388 ≠ j ∧ 389 ≠ j) : Same z (setR z j g) := ⟨rfl, sR_o rfl h.1, sR_o rfl h.2⟩
theorem Same.e {z u : TS} (h : Same z u) : Ln u = Ln z ∧ Fz u = Fz z ∧ Hh u = Hh z := by
  obtain ⟨h1, h2, h3⟩ := h
  have e1 : Ln u = Ln z := by unfold Ln len; rw [h1, h3]
  have e2 : Fz u = Fz z := by unfold Fz sgn; rw [h1, h2]
  exact ⟨e1, e2, by unfold Hh; rw [e1, e2]⟩
theorem kp_k {f f' : Nat → Nat → Bool} {g g' : Nat → Bool} {z u : TS} (h : KF f g z u) (hf : ∀ r k, f' r k = true → f r k = true) (hg : ∀ r, g' r = true → g r = true) (h1 : f 11 11 = true) (h2 : g 46 = true) (h3 : g 47 = true) : KPf f' g' z u := by
  have s := Same.of h h1 h2 h3
  have e1 : ∀ t i, sgn u t i = sgn z t i := fun t i => by unfold sgn; rw [s.2.1]
  exact ⟨h.1.mono hf, fun j q => h.2.1 j (hg _ q), h.2.2.2, h.2.2.1, fun t _ => by rw [s.2.2], fun t i _ _ => e1 t i, by unfold Ln len; rw [s.2.2]; exact Nat.le_refl _, fun i _ => e1 _ i, s.1⟩
theorem KPf_i {f : Nat → Nat → Bool} {g : Nat → Bool} {z : TS} {k : Nat} {v : Int32} (ci : Nat) (hj : ro 386 = ci) (h : f ci k = false ∧ 11 ≠ k) : KPf f g z (setI z 386 k v) :=
  ⟨KI_setI hj h.1, KA.rf, rfl, rfl, fun _ _ => rfl, fun _ _ _ _ => rfl, Nat.le_refl _, fun _ _ => rfl, (Same.i h.2).1⟩
theorem KPf_r {f : Nat → Nat → Bool} {g : Nat → Bool} {z : TS} {j : Nat} {w : Nat → Int32} (r : Nat) (hj : ro j = r) (h : g r = false ∧ 46 ≠ r ∧ 47 ≠ r) : KPf f g z (setR z j w) := by
  have h8 : 388 ≠ j := fun q => h.2.1 (by rw [← hj, ← q]; rfl)
  have h9 : 389 ≠ j := fun q => h.2.2 (by rw [← hj, ← q]; rfl)
  have s := Same.r (z := z) (g := w) ⟨h8, h9⟩
  have e1 : ∀ t i, sgn (setR z j w) t i = sgn z t i := fun t i => by unfold sgn; rw [s.2.1]
  exact ⟨KI.rf, KA_setR hj h.1, rfl, rfl, fun t _ => by rw [s.2.2], fun t i _ _ => e1 t i, by unfold Ln len; rw [s.2.2]; exact Nat.le_refl _, fun i _ => e1 _ i, s.1⟩
def fU (_ _ : Nat) : Bool := true
def fP1 (r k : Nat) : Bool := !(r == 11 && (k == 8 || (k == 9 || (k == 10 || k == 12))))
def gP1 (r : Nat) : Bool := !(r == 46 || r == 47)
def fP2 (r k : Nat) : Bool := !(r == 11 && (k == 8 || (k == 9 || (k == 10 || (k == 12 || (k == 13 || k == 16))))))
def gP2 (r : Nat) : Bool := !(r == 46 || (r == 47 || r == 51))
def fMk (r k : Nat) : Bool := !(r == 11 && (k == 9 || k == 12))
def fOp (r k : Nat) : Bool := !(r == 11 && (k == 9 || (k == 13 || k == 16)))
def gOp (r : Nat) : Bool := !(r == 51)
abbrev KPU : TS → TS → Prop := KPf fU gP1
abbrev KP1 : TS → TS → Prop := KPf fP1 gP1
abbrev KP2 : TS → TS → Prop := KPf fP2 gP2
abbrev KMk : TS → TS → Prop := KF fMk gT
abbrev KOp : TS → TS → Prop := KF fOp gOp
theorem f21 (r k : Nat) (h : fP2 r k = true) : fP1 r k = true := by unfold fP2 at h; unfold fP1; simp at h ⊢; omega
theorem g21 (r : Nat) (h : gP2 r = true) : gP1 r = true := by unfold gP2 at h; unfold gP1; simp at h ⊢; omega
theorem f1Z (r k : Nat) (h : fP1 r k = true) : fZ r k = true := by unfold fP1 at h; unfold fZ; simp at h ⊢; omega
theorem f1M (r k : Nat) (h : fP1 r k = true) : fMk r k = true := by unfold fP1 at h; unfold fMk; simp at h ⊢; omega
theorem f2O (r k : Nat) (h : fP2 r k = true) : fOp r k = true := by unfold fP2 at h; unfold fOp; simp at h ⊢; omega
theorem g2O (r : Nat) (h : gP2 r = true) : gOp r = true := by unfold gP2 at h; unfold gOp; simp at h ⊢; omega
theorem KP1.p2 {z u : TS} (h : KP1 z u) : KP2 z u := h.mono f21 g21
theorem KPU.p1 {z u : TS} (h : KPU z u) : KP1 z u := h.mono (fun _ _ _ => rfl) (fun _ q => q)
theorem KPU.p2 {z u : TS} (h : KPU z u) : KP2 z u := KP1.p2 (KPU.p1 h)
theorem KZ.p1 {z u : TS} (h : KZ z u) : KP1 z u := kp_k h f1Z (fun _ _ => rfl) rfl rfl rfl
theorem KN8.p1 {z u : TS} (h : KN8 z u) : KP1 z u := KZ.p1 (KN8.z h)
theorem KA9.p1 {z u : TS} (h : KA9 z u) : KP1 z u := KZ.p1 (KA9.z h)
theorem KMk.p1 {z u : TS} (h : KMk z u) : KP1 z u := kp_k h f1M (fun _ _ => rfl) rfl rfl rfl
theorem KOp.p2 {z u : TS} (h : KOp z u) : KP2 z u := kp_k h f2O g2O rfl rfl rfl
theorem KA9.mk {z u : TS} (h : KA9 z u) : KMk z u := h.mono (fun r k q => by unfold fMk at q; unfold fA9; simp at q ⊢; omega) (fun _ q => q)
theorem KA9.op {z u : TS} (h : KA9 z u) : KOp z u := h.mono (fun r k q => by unfold fOp at q; unfold fA9; simp at q ⊢; omega) (fun _ _ => rfl)
/-- the height grows by d at least, and what was written needs m at most -/
def Gd (d m : Int) (z u : TS) : Prop := Hh z + d ≤ Hh u ∧ ∀ b : Nat, b ≤ Ln z → gd (Fz z) b (Ln z) → Gt (Fz z) b + m ≤ Hh z → gd (Fz u) b (Ln u)
theorem Gd.rf {z : TS} : Gd 0 0 z z := ⟨by omega, fun _ _ h _ => h⟩
theorem Gd.sm {d m : Int} {z u w : TS} (h : Gd d m z u) (s : Same u w) : Gd d m z w := by
  obtain ⟨e1, e2, e3⟩ := s.e
  unfold Gd at *
  rw [e1, e2, e3]
  exact h
theorem KPf.fz {f : Nat → Nat → Bool} {g : Nat → Bool} {z u : TS} (k : KPf f g z u) : Ln z ≤ Ln u ∧ ∀ i, i < Ln z → Fz u i = Fz z i := by
  obtain ⟨a1, a2, a3, a4, a5, a6, a7, a8, a9⟩ := k
  unfold Ln Fz at *
  rw [a9]
  exact ⟨a7, a8⟩
theorem Gd.tr {d1 m1 d2 m2 d : Int} {f : Nat → Nat → Bool} {g : Nat → Bool} {z u w : TS} (h1 : Gd d1 m1 z u) (k : KPf f g z u) (h2 : Gd d2 m2 u w) (hm : m2 ≤ m1 + d1) (hd : d ≤ d1 + d2) : Gd d m1 z w := by
  obtain ⟨k1, k2⟩ := k.fz
  obtain ⟨a1, a2⟩ := h1
  obtain ⟨b1, b2⟩ := h2
  refine ⟨by omega, fun b hb hg hG => b2 b (Nat.le_trans hb k1) (a2 b hb hg hG) ?_⟩
  rw [Gt_congr (g := Fz z) (fun i hi => k2 i (Nat.lt_of_lt_of_le hi hb))]
  omega
theorem Gd.wk {d m d' m' : Int} {z u : TS} (h : Gd d m z u) (hd : d' ≤ d) (hm : m ≤ m') : Gd d' m' z u := ⟨by have := h.1; omega, fun b hb hg hG => h.2 b hb hg (by omega)⟩
theorem pi_q {z u : TS} (h : PIx z) (s : Same z u) (nn : NXx u) (md : tI u 386 12 = tI z 386 12) (tt : tI u 386 11 = tI z 386 11) : PIx u := by
  obtain ⟨e1, e2, e3⟩ := s.e
  unfold PIx at *
  rw [e1, e2, e3, md, tt]
  exact ⟨h.1, nn, h.2.2⟩
theorem sl_q {z z0 u : TS} {c c' : Int} (d : Int) (h : SLk z + c ≤ SLk z0) (s : Same z0 u) (hm : (tI z0 386 8).toInt + d ≤ (tI u 386 8).toInt) (hc : c' ≤ c + d) : SLk z + c' ≤ SLk u := by
  obtain ⟨e1, _, _⟩ := s.e
  have e : SLk u = (tI u 386 8).toInt - (Ln z0 : Int) := by unfold SLk; rw [e1]
  have e0 : SLk z0 = (tI z0 386 8).toInt - (Ln z0 : Int) := rfl
  omega
theorem pi_m {z : TS} {v : Int32} (hp : PIx z) (h1 : Hh z ≤ v.toInt) (h2 : v.toInt ≤ 60) : PIx (setI z 386 12 v) := by
  obtain ⟨e1, e2, e3⟩ := (Same.i (z := z) (k := 12) (v := v) (by decide)).e
  unfold PIx at *
  rw [e1, e2, e3, sI_self]
  exact ⟨hp.1, hp.2.1, h1, h2, hp.2.2.2.2⟩
theorem hh_m {z : TS} {v : Int32} (h : Hh z + 1 ≤ v.toInt) : Hh (setI z 386 12 v) + 1 ≤ (tI (setI z 386 12 v) 386 12).toInt := by
  rw [(Same.i (z := z) (k := 12) (v := v) (by decide)).e.2.2, sI_self]; exact h
/-- one sign more -/
theorem tx_of {z : TS} {a : Int32} (e : a = tI z 386 11) : a.toNatClampNeg = tx z := by rw [e]; rfl
theorem pl_iv {z : TS} {a L : Int32} (e : a = tI z 386 11) (eL : L = tA z 389 a.toNatClampNeg) (b : iv 0 400 L) (h : Ln z ≤ 399) : iv 0 399 L ∧ L.toNatClampNeg = Ln z := by
  have q : L.toNatClampNeg = Ln z := by unfold Ln len; rw [eL, tx_of e]
  have n := iv_nat b (by decide)
  have b1 := b.1
  exact ⟨⟨b.1, by omega⟩, q⟩
theorem KPf_sign {z : TS} {i v : Int32} (hi : i.toNatClampNeg = 400 * tx z + Ln z) (h : Ln z ≤ 399) : KPU z (setR z 388 (upd (tA z 388) i.toNatClampNeg v)) := by
  have e1 : ∀ t k, (400 * t + k ≠ 400 * tx z + Ln z) → sgn (setR z 388 (upd (tA z 388) i.toNatClampNeg v)) t k = sgn z t k := fun t k hne => by
    unfold sgn; rw [sR_row, hi]; unfold upd; rw [if_neg hne]
  refine ⟨KI.rf, KA_setR rfl rfl, rfl, rfl, fun t _ => ?_, fun t k ht hk => e1 t k (by omega), ?_, fun k hk => e1 _ k (by omega), rfl⟩
  · rw [sR_o rfl (by decide)]
  · unfold Ln len; rw [sR_o rfl (by decide)]; exact Nat.le_refl _
theorem KPf_len {z : TS} {a w : Int32} (ha : a.toNatClampNeg = tx z) (hw : Ln z ≤ w.toNatClampNeg) : KPU z (setR z 389 (upd (tA z 389) a.toNatClampNeg w)) := by
  have e1 : ∀ t k, sgn (setR z 389 (upd (tA z 389) a.toNatClampNeg w)) t k = sgn z t k := fun t k => by
    unfold sgn; rw [sR_o rfl (by decide)]
  refine ⟨KI.rf, KA_setR rfl rfl, rfl, rfl, fun t ht => ?_, fun t k _ _ => e1 t k, ?_, fun k _ => e1 _ k, rfl⟩
  · rw [sR_row, ha]; unfold upd; rw [if_neg ht]
  · unfold len; rw [sR_row, ha]; unfold upd; rw [if_pos rfl]; exact hw
theorem pu_e {z u : TS} {s w : Int32} (k : KPU z u) (e1 : tA u 388 = upd (tA z 388) (400 * tx z + Ln z) s) (e2 : tA u 389 = upd (tA z 389) (tx z) w) (hw : w.toNatClampNeg = Ln z + 1) : Ln u = Ln z + 1 ∧ Fz u (Ln z) = s ∧ Hh u = Hh z + dl s := by
  have t : tx u = tx z := k.2.2.2.2.2.2.2.2
  have l1 : Ln u = Ln z + 1 := by unfold Ln len; rw [t, e2]; unfold upd; rw [if_pos rfl]; exact hw
  have f1 : Fz u (Ln z) = s := by unfold Fz sgn; rw [t, e1]; unfold upd; rw [if_pos rfl]
  refine ⟨l1, f1, ?_⟩
  unfold Hh
  rw [l1]
  show Gt (Fz u) (Ln z) + dl (Fz u (Ln z)) = _
  rw [f1, Gt_congr (g := Fz z) (fun i hi => k.fz.2 i hi)]
theorem pu_pi {z u : TS} {s w : Int32} (hp : PIx z) (k : KPU z u) (e1 : tA u 388 = upd (tA z 388) (400 * tx z + Ln z) s) (e2 : tA u 389 = upd (tA z 389) (tx z) w) (hw : w.toNatClampNeg = Ln z + 1) (hm : Hh z + dl s ≤ (tI z 386 12).toInt) : PIx u := by
  obtain ⟨l1, f1, h1⟩ := pu_e k e1 e2 hw
  obtain ⟨p1, p2, p3, p4, p5⟩ := hp
  have i8 := k.1 386 8 rfl
  have i1 := k.1 386 1 rfl
  have i12 := k.1 386 12 rfl
  have i11 := k.1 386 11 rfl
  refine ⟨by rw [i11]; exact p1, by unfold NXx at *; rw [i8, i1]; exact p2, by rw [h1, i12]; exact hm, by rw [i12]; exact p4, fun i hi => ?_⟩
  rcases Nat.lt_or_ge i (Ln z + 1) with q | q
  · rw [Gt_congr (g := Fz z) (fun j hj => k.fz.2 j (by omega))]; exact p5 i (by omega)
  · have e : i = Ln u := by omega
    rw [e]
    show Hh u ≤ 60
    omega
theorem pu_sl {z u : TS} {s w : Int32} (k : KPU z u) (e1 : tA u 388 = upd (tA z 388) (400 * tx z + Ln z) s) (e2 : tA u 389 = upd (tA z 389) (tx z) w) (hw : w.toNatClampNeg = Ln z + 1) : SLk u = SLk z - 1 := by
  obtain ⟨l1, f1, h1⟩ := pu_e k e1 e2 hw
  unfold SLk
  rw [l1, k.1 386 8 rfl]
  omega
theorem pu_gd {z u : TS} {s w : Int32} {d m : Int} (k : KPU z u) (e1 : tA u 388 = upd (tA z 388) (400 * tx z + Ln z) s) (e2 : tA u 389 = upd (tA z 389) (tx z) w) (hw : w.toNatClampNeg = Ln z + 1) (h1 : s &&& 15 = 1 → iv 0 10 (s >>> 4)) (hd : d ≤ dl s) (hm : ndd s ≤ m) : Gd d m z u := by
  obtain ⟨l1, f1, hh⟩ := pu_e k e1 e2 hw
  refine ⟨by omega, fun b hb hg hG => ?_⟩
  rw [l1]
  intro i hbi hi
  have eb : Gt (Fz u) b = Gt (Fz z) b := Gt_congr (fun j hj => k.fz.2 j (by omega))
  have ei : Gt (Fz u) i = Gt (Fz z) i := Gt_congr (fun j hj => k.fz.2 j (by omega))
  rw [eb, ei]
  rcases Nat.lt_or_ge i (Ln z) with q | q
  · rw [k.fz.2 i q]; exact hg i hbi q
  · have e : i = Ln z := by omega
    subst e
    rw [f1]
    have : Gt (Fz z) (Ln z) = Hh z := rfl
    exact ⟨by omega, h1⟩
theorem and15 (s : Int32) : (s &&& 15).toBitVec.toNat = s.toBitVec.toNat % 16 := by
  rw [Int32.toBitVec_and, BitVec.toNat_and]
  have : (15 : Int32).toBitVec.toNat = 2 ^ 4 - 1 := by decide
  rw [this, Nat.and_two_pow_sub_one_eq_mod]
theorem s_num {v m s : Int32} (e1 : m = 16 * v) (e2 : s = 0 + m) : s &&& 15 = 0 := by
  subst e1 e2
  apply Int32.toBitVec_inj.mp
  apply BitVec.eq_of_toNat_eq
  rw [and15, Int32.toBitVec_add, Int32.toBitVec_mul, BitVec.toNat_add, BitVec.toNat_mul]
  have h0 : (0 : Int32).toBitVec.toNat = 0 := by decide
  have h16 : (16 : Int32).toBitVec.toNat = 16 := by decide
  rw [h0, h16]
  omega
theorem c11 {v : Int32} (h : iv 0 10 v) : v = 0 ∨ v = 1 ∨ v = 2 ∨ v = 3 ∨ v = 4 ∨ v = 5 ∨ v = 6 ∨ v = 7 ∨ v = 8 ∨ v = 9 ∨ v = 10 := by
  have h1 := h.1
  have h2 := h.2
  have e := Int32.ofInt_toInt v
  rcases (show v.toInt = 0 ∨ v.toInt = 1 ∨ v.toInt = 2 ∨ v.toInt = 3 ∨ v.toInt = 4 ∨ v.toInt = 5 ∨ v.toInt = 6 ∨ v.toInt = 7 ∨ v.toInt = 8 ∨ v.toInt = 9 ∨ v.toInt = 10 by omega) with q | q | q | q | q | q | q | q | q | q | q <;> (rw [q] at e; subst e; decide)
theorem s_word {v m s : Int32} (h : iv 0 10 v) (e1 : m = 16 * v) (e2 : s = 1 + m) : s &&& 15 = 1 ∧ iv 0 10 (s >>> 4) := by
  subst e1 e2
  rcases c11 h with q | q | q | q | q | q | q | q | q | q | q <;> (subst q; exact ⟨by decide, ⟨by decide, by decide⟩⟩)
theorem s_op {v s : Int32} (h : iv 2 14 v) (e2 : s = v + 0) : s &&& 15 = v := by
  subst e2
  have h1 := h.1
  have h2 := h.2
  have e := Int32.ofInt_toInt v
  rcases (show v.toInt = 2 ∨ v.toInt = 3 ∨ v.toInt = 4 ∨ v.toInt = 5 ∨ v.toInt = 6 ∨ v.toInt = 7 ∨ v.toInt = 8 ∨ v.toInt = 9 ∨ v.toInt = 10 ∨ v.toInt = 11 ∨ v.toInt = 12 ∨ v.toInt = 13 ∨ v.toInt = 14 by omega) with q | q | q | q | q | q | q | q | q | q | q | q | q <;> (rw [q] at e; subst e; decide)
theorem dn_p {s : Int32} (h : s &&& 15 = 0 ∨ s &&& 15 = 1) : dl s = 1 ∧ ndd s = 0 := by unfold dl ndd; rw [if_pos h, if_pos h]; exact ⟨rfl, rfl⟩
