/-! the reference: what stays -/
theorem KF_l {f : Nat → Nat → Bool} {g : Nat → Bool} {z : TS} {j : Nat} {w : Nat → Int64} (r : Nat) (hj : ro j = r) (h : g r = false) : KF f g z (setL z j w) := ⟨KI.rf, KA_setL hj h, rfl, rfl⟩
theorem KF.mono {f f' : Nat → Nat → Bool} {g g' : Nat → Bool} {z u : TS} (h : KF f g z u) (hf : ∀ r k, f' r k = true → f r k = true) (hg : ∀ r, g' r = true → g r = true) : KF f' g' z u := ⟨h.1.mono hf, fun j q => h.2.1 j (hg _ q), h.2.2⟩
def fQ (r k : Nat) : Bool := !(r == 11 && k == 18)
def gQ (r : Nat) : Bool := !(r == 52 || r == 53)
def fM (r k : Nat) : Bool := !(r == 11 && (k == 18 || (k == 21 || k == 26)))
def gM (r : Nat) : Bool := !(decide (52 ≤ r) && decide (r ≤ 62))
def fE (r k : Nat) : Bool := !(r == 11 && k == 1)
def gE (r : Nat) : Bool := !(r == 45)
/-- only the stack and the words -/
abbrev KQ : TS → TS → Prop := KF fQ gQ
/-- what is told, kept, tallied -/
abbrev KM : TS → TS → Prop := KF fM gM
/-- only the tape -/
abbrev KE : TS → TS → Prop := KF fE gE
theorem fMQ (r k : Nat) (h : fM r k = true) : fQ r k = true := by
  unfold fM at h; unfold fQ
  cases h1 : (r == 11) <;> cases h2 : (k == 18) <;> simp_all
theorem gMQ (r : Nat) (h : gM r = true) : gQ r = true := by
  unfold gM at h; unfold gQ
  simp at h ⊢
  omega
theorem KQ.m {z u : TS} (h : KQ z u) : KM z u := h.mono fMQ gMQ
/-- the same, and the number drawn -/
def KD (z u : TS) : Prop := KI fM z u ∧ KA gM z u ∧ tP u = tP z
theorem KD.rf {z : TS} : KD z z := ⟨KI.rf, KA.rf, rfl⟩
theorem KD.tr {z u w : TS} (h1 : KD z u) (h2 : KD u w) : KD z w := ⟨h1.1.tr h2.1, h1.2.1.tr h2.2.1, h2.2.2.trans h1.2.2⟩
theorem KD_i {z : TS} {j k : Nat} {v : Int32} (ci : Nat) (hj : ro j = ci) (h : fM ci k = false) : KD z (setI z j k v) := ⟨KI_setI hj h, KA.rf, rfl⟩
theorem KD_r {z : TS} {j : Nat} {g : Nat → Int32} (r : Nat) (hj : ro j = r) (h : gM r = false) : KD z (setR z j g) := ⟨KI.rf, KA_setR hj h, rfl⟩
theorem KD_J {z : TS} {v : Int64} : KD z (setJ z v) := ⟨KI.rf, KA.rf, rfl⟩
theorem KM.d {z u : TS} (h : KM z u) : KD z u := ⟨h.1, h.2.1, h.2.2.2⟩
theorem KQ.d {z u : TS} (h : KQ z u) : KD z u := KM.d (KQ.m h)
theorem kri_M (r k : Nat) (h : kri r k = true) : fM r k = true := by
  unfold kri kxi at h; unfold fM
  simp at h ⊢
  omega
theorem kra_M (r : Nat) (h : kra r = true) : gM r = true := by
  unfold kra kxa at h; unfold gM
  simp at h ⊢
  omega
theorem kri_E (r k : Nat) (h : kri r k = true) : fE r k = true := by
  unfold kri kxi at h; unfold fE
  simp at h ⊢
  omega
theorem kra_E (r : Nat) (h : kra r = true) : gE r = true := by
  unfold kra kxa at h; unfold gE
  simp at h ⊢
  omega
theorem KD.r {z u : TS} (h : KD z u) : KR z u := ⟨h.1.mono kri_M, fun j q => h.2.1 j (kra_M _ q), h.2.2⟩
theorem KM.r {z u : TS} (h : KM z u) : KR z u := KD.r (KM.d h)
theorem KE.r {z u : TS} (h : KE z u) : KR z u := ⟨h.1.mono kri_E, fun j q => h.2.1 j (kra_E _ q), h.2.2.2⟩
/-! indices -/
theorem ti_cadd {a b : Int} {x y : Int32} (n : Int) (hx : x.toInt = n) (hy : iv a b y) (h1 : -2147483648 ≤ n + a) (h2 : n + b ≤ 2147483647) : (x + y).toInt = n + y.toInt := by
  obtain ⟨p1, p2⟩ := hy
  rw [← hx]
  exact ti_add (by omega) (by omega)
theorem ti_addv {a b c d : Int} {x y : Int32} (hx : iv a b x) (hy : iv c d y) (h1 : -2147483648 ≤ a + c) (h2 : b + d ≤ 2147483647) : (x + y).toInt = x.toInt + y.toInt := by
  obtain ⟨p1, p2⟩ := hx
  obtain ⟨q1, q2⟩ := hy
  exact ti_add (by omega) (by omega)
theorem ti_subv {a b c d : Int} {x y : Int32} (hx : iv a b x) (hy : iv c d y) (h1 : -2147483648 ≤ a - d) (h2 : b - c ≤ 2147483647) : (x - y).toInt = x.toInt - y.toInt := by
  obtain ⟨p1, p2⟩ := hx
  obtain ⟨q1, q2⟩ := hy
  exact ti_sub (by omega) (by omega)
theorem ti_mulc {a b : Int} {x y : Int32} (n : Int) (hy : y.toInt = n) (hn : 0 ≤ n) (hx : iv a b x) (h1 : -2147483648 ≤ a * n) (h2 : b * n ≤ 2147483647) : (x * y).toInt = n * x.toInt := by
  obtain ⟨p1, p2⟩ := hx
  have m1 : a * n ≤ x.toInt * n := Int.mul_le_mul_of_nonneg_right p1 hn
  have m2 : x.toInt * n ≤ b * n := Int.mul_le_mul_of_nonneg_right p2 hn
  rw [ti_mul (by rw [hy]; omega) (by rw [hy]; omega), hy, Int.mul_comm]
theorem ti_cmul {a b : Int} {x y : Int32} (n : Int) (hx : x.toInt = n) (hn : 0 ≤ n) (hy : iv a b y) (h1 : -2147483648 ≤ a * n) (h2 : b * n ≤ 2147483647) : (x * y).toInt = n * y.toInt := by
  rw [Int32.mul_comm]; exact ti_mulc n hx hn hy h1 h2
def unif (r : Nat) : Bool := !(r == 48 || r == 50 || r == 54 || r == 57 || r == 58 || r == 63)
theorem al_u {r : Nat} (h : unif r = true) (i : Nat) : alo r i = alo0 r ∧ ahi r i = ahi0 r := by
  unfold unif at h
  simp at h
  unfold alo ahi
  constructor <;> repeat rw [if_neg (by omega)]
theorem rd_u {z : TS} (o : Ok z) {j : Nat} (r : Nat) (hj : ro j = r) (h : unif r = true) (i : Nat) : iv (alo0 r) (ahi0 r) (tA z j i) := by
  have q := o.a r hj i
  rwa [(al_u h i).1, (al_u h i).2] at q
theorem wr_u {r : Nat} (h : unif r = true) {i : Nat} {v : Int32} (hv : iv (alo0 r) (ahi0 r) v) : iv (alo r i) (ahi r i) v := by
  rwa [(al_u h i).1, (al_u h i).2]
theorem rd1 {z : TS} (o : Ok z) {j : Nat} (r : Nat) (hj : ro j = r) {i : Int32} {w : Int} (A S L H : Int) {lo hi : Int} (bw : L ≤ w ∧ w ≤ H) (e : i.toInt = A + S * w) (hd : ∀ n : Nat, n < (H - L + 1).toNat → lo ≤ alo r (A + S * (L + n)).toNat ∧ ahi r (A + S * (L + n)).toNat ≤ hi) : iv lo hi (tA z j i.toNatClampNeg) := by
  have h := o.a r hj i.toNatClampNeg
  have q := hd (w - L).toNat (by omega)
  have e2 : (L + ((w - L).toNat : Int)) = w := by omega
  rw [e2, ← e] at q
  exact iv_mono h q.1 q.2
theorem wr1 {r : Nat} {i : Int32} {w : Int} (A S L H : Int) {a b : Int} {v : Int32} (hv : iv a b v) (bw : L ≤ w ∧ w ≤ H) (e : i.toInt = A + S * w) (hd : ∀ n : Nat, n < (H - L + 1).toNat → alo r (A + S * (L + n)).toNat ≤ a ∧ b ≤ ahi r (A + S * (L + n)).toNat) : iv (alo r i.toNatClampNeg) (ahi r i.toNatClampNeg) v := by
  have q := hd (w - L).toNat (by omega)
  have e2 : (L + ((w - L).toNat : Int)) = w := by omega
  rw [e2, ← e] at q
  exact iv_mono hv q.1 q.2
theorem cp1 {r r0 : Nat} {i i0 : Int32} {w : Int} (A S A0 S0 L H : Int) {v : Int32} (hv : iv (alo r0 i0.toNatClampNeg) (ahi r0 i0.toNatClampNeg) v) (bw : L ≤ w ∧ w ≤ H) (e : i.toInt = A + S * w) (e0 : i0.toInt = A0 + S0 * w) (hd : ∀ n : Nat, n < (H - L + 1).toNat → alo r (A + S * (L + n)).toNat ≤ alo r0 (A0 + S0 * (L + n)).toNat ∧ ahi r0 (A0 + S0 * (L + n)).toNat ≤ ahi r (A + S * (L + n)).toNat) : iv (alo r i.toNatClampNeg) (ahi r i.toNatClampNeg) v := by
  have q := hd (w - L).toNat (by omega)
  have e2 : (L + ((w - L).toNat : Int)) = w := by omega
  rw [e2, ← e, ← e0] at q
  exact iv_mono hv q.1 q.2
theorem cp2 {r r0 : Nat} {i i0 : Int32} {w y : Int} (A S T A0 S0 T0 L H L' H' : Int) {v : Int32} (hv : iv (alo r0 i0.toNatClampNeg) (ahi r0 i0.toNatClampNeg) v) (bw : L ≤ w ∧ w ≤ H) (by_ : L' ≤ y ∧ y ≤ H') (e : i.toInt = A + S * w + T * y) (e0 : i0.toInt = A0 + S0 * w + T0 * y) (hd : ∀ n : Nat, n < (H - L + 1).toNat → ∀ m : Nat, m < (H' - L' + 1).toNat → alo r (A + S * (L + n) + T * (L' + m)).toNat ≤ alo r0 (A0 + S0 * (L + n) + T0 * (L' + m)).toNat ∧ ahi r0 (A0 + S0 * (L + n) + T0 * (L' + m)).toNat ≤ ahi r (A + S * (L + n) + T * (L' + m)).toNat) : iv (alo r i.toNatClampNeg) (ahi r i.toNatClampNeg) v := by
  have q := hd (w - L).toNat (by omega) (y - L').toNat (by omega)
  have e2 : (L + ((w - L).toNat : Int)) = w := by omega
  have e3 : (L' + ((y - L').toNat : Int)) = y := by omega
  rw [e2, e3, ← e, ← e0] at q
  exact iv_mono hv q.1 q.2
theorem iv_bool {a b : Int} {x : Int32} (h : iv a b x) (h0 : 0 ≤ a := by decide) (h1 : b ≤ 1 := by decide) : iv 0 1 (vp_nar .boolean x) := by
  unfold vp_nar
  rw [nar_b h h0 h1]
  exact iv_mono h h0 h1
theorem lg_ge {n : Int32} {x y : Int64} (e : n = lg_cmp x y) (h : ¬ n < 0) : y.toInt ≤ x.toInt := by
  rw [e] at h
  unfold lg_cmp at h
  by_cases h1 : x > y
  · have := Int64.lt_iff_toInt_lt.mp h1; omega
  · by_cases h2 : x = y
    · rw [h2]; omega
    · rw [if_neg h1, if_neg h2] at h; exact absurd (by decide) h
theorem lg_le {n : Int32} {x y : Int64} (e : n = lg_cmp x y) (h : ¬ (0 : Int32) < n) : x.toInt ≤ y.toInt := by
  rw [e] at h
  unfold lg_cmp at h
  by_cases h1 : x > y
  · rw [if_pos h1] at h; exact absurd (by decide) h
  · have : ¬ y.toInt < x.toInt := fun q => h1 (Int64.lt_iff_toInt_lt.mpr q)
    omega
theorem in_iv {x : Int32} {w1 w2 w3 : Int64} {lo hi : Int} (e : w1 = x.toInt64) (h : w2.toInt ≤ w1.toInt ∧ w1.toInt ≤ w3.toInt) (h2 : lo ≤ w2.toInt) (h3 : w3.toInt ≤ hi) : iv lo hi x := by
  have q := Int32.toInt_toInt64 x
  rw [← e] at q
  exact ⟨by omega, by omega⟩
theorem bits_lt {s s1 t : Int32} (e1 : s1 = s - 1) (e : t = s &&& s1) (h : ¬ s = 0) : t.toUInt32.toNat < s.toUInt32.toNat := by
  subst e1 e
  have hb : s.toUInt32 ≠ 0 := fun q => h (by have := congrArg UInt32.toInt32 q; simpa using this)
  have hn : s.toUInt32.toNat ≠ 0 := fun q => hb (UInt32.toNat_inj.mp (by rw [q]; rfl))
  have e1 : (s &&& (s - 1)).toUInt32.toNat ≤ (s - 1).toUInt32.toNat := by
    rw [Int32.toUInt32_and, UInt32.toNat_and]; exact Nat.and_le_right
  have e2 : (s - 1).toUInt32.toNat = s.toUInt32.toNat - 1 := by
    rw [Int32.toUInt32_sub]
    have : (1 : Int32).toUInt32 = 1 := by decide
    rw [this, UInt32.toNat_sub_of_le _ _ (by rw [UInt32.le_iff_toNat_le]; have : (1 : UInt32).toNat = 1 := by decide
                                             omega)]
    rfl
  omega
/-! texts: heights -/
def dl (s : Int32) : Int := if s &&& 15 = 0 ∨ s &&& 15 = 1 then 1 else if s &&& 15 = 11 then 0 else -1
def ndd (s : Int32) : Int := if s &&& 15 = 0 ∨ s &&& 15 = 1 then 0 else if s &&& 15 = 11 then 1 else 2
def Gt (f : Nat → Int32) : Nat → Int
  | 0 => 0
  | n + 1 => Gt f n + dl (f n)
def gd (f : Nat → Int32) (b e : Nat) : Prop := ∀ i, b ≤ i → i < e → ndd (f i) ≤ Gt f i - Gt f b ∧ (f i &&& 15 = 1 → iv 0 10 (f i >>> 4))
def clk (f : Nat → Int32) (b e : Nat) : Prop := b ≤ e ∧ e ≤ 400 ∧ gd f b e ∧ (∀ i, b ≤ i → i ≤ e → Gt f i - Gt f b ≤ 60) ∧ Gt f b + 1 ≤ Gt f e
def sgn (z : TS) (t : Nat) : Nat → Int32 := fun i => tA z 388 (400 * t + i)
def cle (z : TS) (i : Nat) : Nat := (tA z 390 i).toNatClampNeg
def len (z : TS) (t : Nat) : Nat := (tA z 389 t).toNatClampNeg
/-- one clause is good -/
def clok (z : TS) (t c : Nat) : Prop := clk (sgn z t) (cle z (48 * t + 4 * c)) (cle z (48 * t + 4 * c + 1)) ∧ cle z (48 * t + 4 * c + 1) ≤ len z t ∧ ((tA z 390 (48 * t + 4 * c + 2)).toInt < 0 ∨ (clk (sgn z t) (cle z (48 * t + 4 * c + 2)) (cle z (48 * t + 4 * c + 3)) ∧ cle z (48 * t + 4 * c + 3) ≤ len z t))
def WFc (z : TS) : Prop := ∀ t, t < 6 → ∀ c : Nat, (c : Int) < (tA z 391 t).toInt → clok z t c
theorem wf_of {z u : TS} (h : WFc z) (h1 : tA u 388 = tA z 388) (h2 : tA u 389 = tA z 389) (h3 : tA u 390 = tA z 390) (h4 : tA u 391 = tA z 391) : WFc u := by
  intro t ht c hc
  rw [h4] at hc
  have q := h t ht c hc
  unfold clok sgn cle len at q ⊢
  rw [h1, h2, h3]
  exact q
theorem wf_ka {z u : TS} {g : Nat → Bool} (h : WFc z) (k : KA g z u) (h1 : g 46 = true) (h2 : g 47 = true) (h3 : g 48 = true) (h4 : g 49 = true) : WFc u :=
  wf_of h (k 388 h1).1 (k 389 h2).1 (k 390 h3).1 (k 391 h4).1
theorem sgn_ka {z u : TS} {g : Nat → Bool} (k : KA g z u) (h1 : g 46 = true) (t : Nat) : sgn u t = sgn z t := by
  unfold sgn; rw [(k 388 h1).1]
theorem wf_c {z u : TS} (h : WFc z) (k : KC z u) : WFc u := wf_ka h k.2.1 rfl rfl rfl rfl
