/-! what stays -/
def KI (f : Nat → Nat → Bool) (z u : TS) : Prop := ∀ j k, f (ro j) k = true → tI u j k = tI z j k
def KA (f : Nat → Bool) (z u : TS) : Prop := ∀ j, f (ro j) = true → tA u j = tA z j ∧ tL u j = tL z j
theorem KI.rf {f : Nat → Nat → Bool} {z : TS} : KI f z z := fun _ _ _ => rfl
theorem KA.rf {f : Nat → Bool} {z : TS} : KA f z z := fun _ _ => ⟨rfl, rfl⟩
theorem KI.tr {f : Nat → Nat → Bool} {z u w : TS} (h1 : KI f z u) (h2 : KI f u w) : KI f z w := fun j k h => (h2 j k h).trans (h1 j k h)
theorem KA.tr {f : Nat → Bool} {z u w : TS} (h1 : KA f z u) (h2 : KA f u w) : KA f z w := fun j h => ⟨(h2 j h).1.trans (h1 j h).1, (h2 j h).2.trans (h1 j h).2⟩
theorem KI.mono {f g : Nat → Nat → Bool} {z u : TS} (h : KI f z u) (hg : ∀ r k, g r k = true → f r k = true) : KI g z u := fun j k q => h j k (hg _ _ q)
theorem KI_setI {f : Nat → Nat → Bool} {z : TS} {j k ci : Nat} {v : Int32} (hj : ro j = ci) (h : f ci k = false) : KI f z (setI z j k v) := by
  intro a b hab
  show (if a = j ∧ b = k then v else tI z a b) = tI z a b
  rw [if_neg]
  rintro ⟨rfl, rfl⟩
  rw [hj, h] at hab
  cases hab
theorem KA_setR {f : Nat → Bool} {z : TS} {j r : Nat} {g : Nat → Int32} (hj : ro j = r) (h : f r = false) : KA f z (setR z j g) := by
  intro a ha
  refine ⟨?_, rfl⟩
  show (if a = j then g else tA z a) = tA z a
  rw [if_neg]
  rintro rfl
  rw [hj, h] at ha
  cases ha
theorem KA_setL {f : Nat → Bool} {z : TS} {j r : Nat} {g : Nat → Int64} (hj : ro j = r) (h : f r = false) : KA f z (setL z j g) := by
  intro a ha
  refine ⟨rfl, ?_⟩
  show (if a = j then g else tL z a) = tL z a
  rw [if_neg]
  rintro rfl
  rw [hj, h] at ha
  cases ha
/-- a method of the class -/
def KC (z u : TS) : Prop := KI kci z u ∧ KA kca z u ∧ tJ u = tJ z
theorem KC.rf {z : TS} : KC z z := ⟨KI.rf, KA.rf, rfl⟩
theorem KC.tr {z u w : TS} (h1 : KC z u) (h2 : KC u w) : KC z w := ⟨h1.1.tr h2.1, h1.2.1.tr h2.2.1, h2.2.2.trans h1.2.2⟩
theorem KC_i {z : TS} {j k : Nat} {v : Int32} (ci : Nat) (hj : ro j = ci) (h : kci ci k = false) : KC z (setI z j k v) := ⟨KI_setI hj h, KA.rf, rfl⟩
theorem KC_r {z : TS} {j : Nat} {g : Nat → Int32} (r : Nat) (hj : ro j = r) (h : kca r = false) : KC z (setR z j g) := ⟨KI.rf, KA_setR hj h, rfl⟩
theorem KC_l {z : TS} {j : Nat} {g : Nat → Int64} (r : Nat) (hj : ro j = r) (h : kca r = false) : KC z (setL z j g) := ⟨KI.rf, KA_setL hj h, rfl⟩
theorem KC_p {z : TS} {j k v : Nat} : KC z (setP z j k v) := ⟨KI.rf, KA.rf, rfl⟩
/-- a method of the reference -/
def KR (z u : TS) : Prop := KI kri z u ∧ KA kra z u ∧ tP u = tP z
theorem KR.rf {z : TS} : KR z z := ⟨KI.rf, KA.rf, rfl⟩
theorem KR.tr {z u w : TS} (h1 : KR z u) (h2 : KR u w) : KR z w := ⟨h1.1.tr h2.1, h1.2.1.tr h2.2.1, h2.2.2.trans h1.2.2⟩
theorem KR_i {z : TS} {j k : Nat} {v : Int32} (ci : Nat) (hj : ro j = ci) (h : kri ci k = false) : KR z (setI z j k v) := ⟨KI_setI hj h, KA.rf, rfl⟩
theorem KR_r {z : TS} {j : Nat} {g : Nat → Int32} (r : Nat) (hj : ro j = r) (h : kra r = false) : KR z (setR z j g) := ⟨KI.rf, KA_setR hj h, rfl⟩
theorem KR_l {z : TS} {j : Nat} {g : Nat → Int64} (r : Nat) (hj : ro j = r) (h : kra r = false) : KR z (setL z j g) := ⟨KI.rf, KA_setL hj h, rfl⟩
/-! all is within its bounds -/
def Ok (z : TS) : Prop := Ok0 z ∧ OkR z
theorem Ok.i {z : TS} (h : Ok z) {j : Nat} (ci k : Nat) (hj : ro j = ci) : iv (ilo ci k) (ihi ci k) (tI z j k) := by subst hj; exact h.1.1 j k
theorem Ok.a {z : TS} (h : Ok z) {j : Nat} (r : Nat) (hj : ro j = r) (i : Nat) : iv (alo r i) (ahi r i) (tA z j i) := by subst hj; exact h.1.2.1 j i
theorem Ok.p {z : TS} (h : Ok z) {j : Nat} (ci k : Nat) (hj : ro j = ci) (hd : dyr ci k < 97) : at_ (dyr ci k) (tP z j k) = true := by subst hj; exact h.1.2.2 j k hd
theorem ro_test : ∀ j, j < 409 → ro j = 4 → ro (j + 3) = 32 := by decide +kernel
theorem ok_i {z : TS} {j k : Nat} {v : Int32} (h : Ok z) (ci : Nat) (hj : ro j = ci) (hv : iv (ilo ci k) (ihi ci k) v) (hn : ci ≠ 4 ∨ k ≠ 0) : Ok (setI z j k v) := by
  refine ⟨⟨fun a b => ?_, h.1.2.1, h.1.2.2⟩, fun a ha i hi => ?_⟩
  · show iv _ _ (if a = j ∧ b = k then v else tI z a b)
    by_cases q : a = j ∧ b = k
    · rw [if_pos q, q.1, q.2, hj]; exact hv
    · rw [if_neg q]; exact h.1.1 a b
  · have e : tI (setI z j k v) a 0 = tI z a 0 := by
      show (if a = j ∧ 0 = k then v else tI z a 0) = _
      rw [if_neg]
      rintro ⟨rfl, rfl⟩
      rcases hn with hn | hn
      · exact hn (hj.symm.trans ha)
      · exact hn rfl
    rw [e] at hi
    exact h.2 a ha i hi
theorem ok_r {z : TS} {j : Nat} {f : Nat → Int32} (h : Ok z) (r : Nat) (hj : ro j = r) (hv : ∀ i, iv (alo r i) (ahi r i) (f i)) (hn : r ≠ 32) : Ok (setR z j f) := by
  refine ⟨⟨h.1.1, fun a i => ?_, h.1.2.2⟩, fun a ha i hi => ?_⟩
  · show iv _ _ ((if a = j then f else tA z a) i)
    by_cases q : a = j
    · rw [if_pos q, q, hj]; exact hv i
    · rw [if_neg q]; exact h.1.2.1 a i
  · have e : tA (setR z j f) (a + 3) = tA z (a + 3) := by
      show (if a + 3 = j then f else tA z (a + 3)) = _
      rw [if_neg]
      rintro rfl
      exact hn (hj.symm.trans (ro_test a (ro_lt ha (by decide)) ha))
    rw [e]
    exact h.2 a ha i hi
theorem ok_u {z : TS} {j i : Nat} {v : Int32} (h : Ok z) (r : Nat) (hj : ro j = r) (hv : iv (alo r i) (ahi r i) v) (hn : r ≠ 32) : Ok (setR z j (upd (tA z j) i v)) := by
  refine ok_r h r hj (fun a => ?_) hn
  unfold upd
  by_cases q : a = i
  · rw [if_pos q, q]; exact hv
  · rw [if_neg q]; exact h.a r hj a
theorem ok_c {z : TS} {j j0 sp dp n : Nat} (h : Ok z) (r0 r : Nat) (hj0 : ro j0 = r0) (hj : ro j = r) (hv : ∀ i i' : Nat, alo r i ≤ alo r0 i' ∧ ahi r0 i' ≤ ahi r i) (hn : r ≠ 32) : Ok (setR z j (va_cpy (tA z j0) (tA z j) sp dp n)) := by
  refine ok_r h r hj (fun a => ?_) hn
  unfold va_cpy
  by_cases q : dp ≤ a ∧ a < dp + n
  · rw [if_pos q]; exact iv_mono (h.a r0 hj0 _) (hv a _).1 (hv a _).2
  · rw [if_neg q]; exact h.a r hj a
theorem ok_p {z : TS} {j k v : Nat} (h : Ok z) (ci : Nat) (hj : ro j = ci) (hv : at_ (dyr ci k) v = true) : Ok (setP z j k v) := by
  refine ⟨⟨h.1.1, h.1.2.1, fun a b hab => ?_⟩, h.2⟩
  show at_ _ (if a = j ∧ b = k then v else tP z a b) = true
  by_cases q : a = j ∧ b = k
  · rw [if_pos q, q.1, q.2, hj]; exact hv
  · rw [if_neg q]; exact h.1.2.2 a b hab
theorem ok_l {z : TS} {j : Nat} {g : Nat → Int64} (h : Ok z) : Ok (setL z j g) := h
theorem ok_J {z : TS} {v : Int64} (h : Ok z) : Ok (setJ z v) := h
/-- rows of the class have one interval for all their entries -/
theorem al_c {r : Nat} (h : r < 45) (i : Nat) : alo r i = alo0 r := by
  unfold alo
  repeat rw [if_neg (by omega)]
theorem ah_c {r : Nat} (h : r < 45) (i : Nat) : ahi r i = ahi0 r := by
  unfold ahi
  repeat rw [if_neg (by omega)]
theorem Ok.ac {z : TS} (h : Ok z) {j : Nat} (r : Nat) (hj : ro j = r) (hr : r < 45) (i : Nat) : iv (alo0 r) (ahi0 r) (tA z j i) := by
  have := h.a r hj i
  rwa [al_c hr, ah_c hr] at this
theorem ok_uc {z : TS} {j i : Nat} {v : Int32} (h : Ok z) (r : Nat) (hj : ro j = r) (hr : r < 45) (hv : iv (alo0 r) (ahi0 r) v) (hn : r ≠ 32) : Ok (setR z j (upd (tA z j) i v)) := ok_u h r hj (by rw [al_c hr, ah_c hr]; exact hv) hn
theorem ok_cc {z : TS} {j j0 sp dp n : Nat} (h : Ok z) (r0 r : Nat) (hj0 : ro j0 = r0) (hj : ro j = r) (hr0 : r0 < 45) (hr : r < 45) (h1 : alo0 r ≤ alo0 r0) (h2 : ahi0 r0 ≤ ahi0 r) (hn : r ≠ 32) : Ok (setR z j (va_cpy (tA z j0) (tA z j) sp dp n)) :=
  ok_c h r0 r hj0 hj (fun i i' => by rw [al_c hr, al_c hr0, ah_c hr, ah_c hr0]; exact ⟨h1, h2⟩) hn
/-! blocks -/
theorem at_ro {ci p i : Nat} (h : at_ ci p = true) (hi : i < (blk ci).length) : ro (p + i) = (blk ci).getD i 98 := by
  unfold at_ at h
  rw [Bool.and_eq_true, List.all_eq_true] at h
  exact eq_of_beq (h.1 i (List.mem_range.mpr hi))
theorem at_sub {ci p : Nat} (ci' off : Nat) (h : at_ ci p = true) (hb : ((List.range (blk ci').length).all fun i => (blk ci).getD (off + i) 98 == (blk ci').getD i 98) = true) (hl : off + (blk ci').length ≤ (blk ci).length) : at_ ci' (p + off) = true := by
  have h2 := h
  unfold at_ at h ⊢
  rw [Bool.and_eq_true, List.all_eq_true] at h ⊢
  refine ⟨fun i hi => ?_, ?_⟩
  · have hi' := List.mem_range.mp hi
    rw [List.all_eq_true] at hb
    have e := eq_of_beq (hb i hi)
    rw [Nat.add_assoc, at_ro h2 (by omega), e]
    exact beq_self_eq_true _
  · have := of_decide_eq_true h.2
    exact decide_eq_true (by omega)
/-! numbers -/
theorem iv_lit {lo hi : Int} (c : Int32) (h1 : lo ≤ c.toInt) (h2 : c.toInt ≤ hi) : iv lo hi c := ⟨h1, h2⟩
theorem ti_add {x y : Int32} (h1 : -2147483648 ≤ x.toInt + y.toInt) (h2 : x.toInt + y.toInt ≤ 2147483647) : (x + y).toInt = x.toInt + y.toInt := by
  rw [Int32.toInt_add]; exact Int.bmod_eq_of_le (by omega) (by omega)
theorem ti_sub {x y : Int32} (h1 : -2147483648 ≤ x.toInt - y.toInt) (h2 : x.toInt - y.toInt ≤ 2147483647) : (x - y).toInt = x.toInt - y.toInt := by
  rw [Int32.toInt_sub]; exact Int.bmod_eq_of_le (by omega) (by omega)
theorem ti_mul {x y : Int32} (h1 : -2147483648 ≤ x.toInt * y.toInt) (h2 : x.toInt * y.toInt ≤ 2147483647) : (x * y).toInt = x.toInt * y.toInt := by
  rw [Int32.toInt_mul]; exact Int.bmod_eq_of_le (by omega) (by omega)
theorem iv_add {a b c d : Int} {x y : Int32} {lo hi : Int} (hx : iv a b x) (hy : iv c d y) (h1 : lo ≤ a + c) (h2 : b + d ≤ hi) (h3 : -2147483648 ≤ a + c) (h4 : b + d ≤ 2147483647) : iv lo hi (x + y) := by
  obtain ⟨p1, p2⟩ := hx
  obtain ⟨q1, q2⟩ := hy
  have e := ti_add (x := x) (y := y) (by omega) (by omega)
  exact ⟨by omega, by omega⟩
theorem iv_sub {a b c d : Int} {x y : Int32} {lo hi : Int} (hx : iv a b x) (hy : iv c d y) (h1 : lo ≤ a - d) (h2 : b - c ≤ hi) (h3 : -2147483648 ≤ a - d) (h4 : b - c ≤ 2147483647) : iv lo hi (x - y) := by
  obtain ⟨p1, p2⟩ := hx
  obtain ⟨q1, q2⟩ := hy
  have e := ti_sub (x := x) (y := y) (by omega) (by omega)
  exact ⟨by omega, by omega⟩
/-- by a number that is known and not below 0 -/
theorem iv_mulc {a b : Int} {x y : Int32} {lo hi : Int} (hx : iv a b x) (n : Int) (hy : y.toInt = n) (hn : 0 ≤ n) (h1 : lo ≤ a * n) (h2 : b * n ≤ hi) (h3 : -2147483648 ≤ lo) (h4 : hi ≤ 2147483647) : iv lo hi (x * y) := by
  obtain ⟨p1, p2⟩ := hx
  have m1 : a * n ≤ x.toInt * n := Int.mul_le_mul_of_nonneg_right p1 hn
  have m2 : x.toInt * n ≤ b * n := Int.mul_le_mul_of_nonneg_right p2 hn
  have e := ti_mul (x := x) (y := y) (by rw [hy]; omega) (by rw [hy]; omega)
  rw [hy] at e
  exact ⟨by omega, by omega⟩
theorem iv_mulc' {a b : Int} {x y : Int32} {lo hi : Int} (hx : iv a b x) (n : Int) (hy : y.toInt = n) (hn : 0 ≤ n) (h1 : lo ≤ a * n) (h2 : b * n ≤ hi) (h3 : -2147483648 ≤ lo) (h4 : hi ≤ 2147483647) : iv lo hi (y * x) := by
  rw [Int32.mul_comm]; exact iv_mulc hx n hy hn h1 h2 h3 h4
theorem lt_l {a b c d : Int} {x y : Int32} {hi : Int} (h : x < y) (hx : iv a b x) (hy : iv c d y) (h1 : d - 1 ≤ hi) : iv a hi x := ⟨hx.1, by have := Int32.lt_iff_toInt_lt.mp h; have := hy.2; omega⟩
theorem lt_r {a b c d : Int} {x y : Int32} {lo : Int} (h : x < y) (hx : iv a b x) (hy : iv c d y) (h1 : lo ≤ a + 1) : iv lo d y := ⟨by have := Int32.lt_iff_toInt_lt.mp h; have := hx.1; omega, hy.2⟩
theorem le_l {a b c d : Int} {x y : Int32} {hi : Int} (h : x ≤ y) (hx : iv a b x) (hy : iv c d y) (h1 : d ≤ hi) : iv a hi x := ⟨hx.1, by have := Int32.le_iff_toInt_le.mp h; have := hy.2; omega⟩
theorem le_r {a b c d : Int} {x y : Int32} {lo : Int} (h : x ≤ y) (hx : iv a b x) (hy : iv c d y) (h1 : lo ≤ a) : iv lo d y := ⟨by have := Int32.le_iff_toInt_le.mp h; have := hx.1; omega, hy.2⟩
theorem iv_eq {a b : Int} {x y : Int32} (h : x = y) (hy : iv a b y) : iv a b x := by rw [h]; exact hy
theorem iv_and {a b : Int} {x y : Int32} (hy : iv a b y) (ha : 0 ≤ a) : iv 0 b (x &&& y) := by
  obtain ⟨p1, p2⟩ := hy
  have hm : y.toBitVec.msb = false := by
    rw [BitVec.msb_eq_toInt]; simp only [decide_eq_false_iff_not]; show ¬ y.toInt < 0; omega
  have hm2 : (x &&& y).toBitVec.msb = false := by rw [Int32.toBitVec_and, BitVec.msb_and, hm, Bool.and_false]
  have e1 : (x &&& y).toInt = ((x &&& y).toBitVec.toNat : Int) := BitVec.toInt_eq_toNat_of_msb hm2
  have e2 : y.toInt = (y.toBitVec.toNat : Int) := BitVec.toInt_eq_toNat_of_msb hm
  have h3 : (x &&& y).toBitVec.toNat ≤ y.toBitVec.toNat := by rw [Int32.toBitVec_and, BitVec.toNat_and]; exact Nat.and_le_right
  exact ⟨by omega, by omega⟩
theorem iv_and1 (x : Int32) : iv 0 1 (x &&& 1) := iv_and (iv_lit (lo := 1) (hi := 1) 1 (by decide) (by decide)) (by decide)
theorem iv_byte (x : Int32) : iv (-128) 127 (vp_nar .byte x.toInt8.toInt32) := by
  rw [pk_vb]
  have h1 := Int8.le_toInt x.toInt8
  have h2 := Int8.toInt_lt x.toInt8
  rw [iv, Int8.toInt_toInt32]
  constructor <;> omega
theorem ivlt {a b c d : Int} {x y : Int32} (hx : iv a b x) (hy : iv c d y) (h : b < c) : x < y := Int32.lt_iff_toInt_lt.mpr (by have := hx.2; have := hy.1; omega)
theorem ivnlt {a b c d : Int} {x y : Int32} (hx : iv a b x) (hy : iv c d y) (h : d ≤ a) : ¬ x < y := fun q => by have := Int32.lt_iff_toInt_lt.mp q; have := hx.1; have := hy.2; omega
theorem ivle {a b c d : Int} {x y : Int32} (hx : iv a b x) (hy : iv c d y) (h : b ≤ c) : x ≤ y := Int32.le_iff_toInt_le.mpr (by have := hx.2; have := hy.1; omega)
theorem ivnle {a b c d : Int} {x y : Int32} (hx : iv a b x) (hy : iv c d y) (h : d < a) : ¬ x ≤ y := fun q => by have := Int32.le_iff_toInt_le.mp q; have := hx.1; have := hy.2; omega
theorem ivne1 {a b c d : Int} {x y : Int32} (hx : iv a b x) (hy : iv c d y) (h : b < c) : ¬ x = y := fun q => by subst q; have := hx.2; have := hy.1; omega
theorem ivne2 {a b c d : Int} {x y : Int32} (hx : iv a b x) (hy : iv c d y) (h : d < a) : ¬ x = y := fun q => by subst q; have := hx.1; have := hy.2; omega
theorem ne_lo {a b : Int} {x y : Int32} {lo : Int} (h : ¬ x = y) (hx : iv a b x) (hy : y.toInt = a) (hl : lo ≤ a + 1) : iv lo b x := ⟨by
  have h1 := hx.1
  rcases Int.lt_or_eq_of_le h1 with q | q
  · omega
  · exact absurd (Int32.toInt_inj.mp (by omega)) h, hx.2⟩
theorem ne_hi {a b : Int} {x y : Int32} {hi : Int} (h : ¬ x = y) (hx : iv a b x) (hy : y.toInt = b) (hl : b - 1 ≤ hi) : iv a hi x := ⟨hx.1, by
  have h1 := hx.2
  rcases Int.lt_or_eq_of_le h1 with q | q
  · omega
  · exact absurd (Int32.toInt_inj.mp (by omega)) h⟩
theorem ti_addc {a b : Int} {x y : Int32} (n : Int) (hy : y.toInt = n) (hx : iv a b x) (h1 : -2147483648 ≤ a + n) (h2 : b + n ≤ 2147483647) : (x + y).toInt = x.toInt + n := by
  obtain ⟨p1, p2⟩ := hx
  rw [← hy]
  exact ti_add (by omega) (by omega)
theorem clamp_lt {a b : Int} {x : Int32} {n : Nat} (h : iv a b x) (h0 : 0 ≤ a) (hb : b < n) : x.toNatClampNeg < n := by
  have e := iv_nat h h0
  have := h.2
  omega
theorem before_at : ∀ i, i < 20 → at_ 6 (183 + 1 + qst 36 * i) = true := by decide +kernel
theorem rules_at : ∀ i, i < 6 → at_ 4 (20 + 1 + qst 37 * i) = true := by decide +kernel
theorem images_at : ∀ i, i < 4 → at_ 2 (81 + 1 + qst 38 * i) = true := by decide +kernel
theorem iv_if {a b c d : Int} {x y : Int32} {lo hi : Int} {q : Prop} [Decidable q] (hx : iv a b x) (hy : iv c d y) (h1 : lo ≤ a) (h2 : lo ≤ c) (h3 : b ≤ hi) (h4 : d ≤ hi) : iv lo hi (if q then x else y) := by
  by_cases h : q
  · rw [if_pos h]; exact iv_mono hx h1 h3
  · rw [if_neg h]; exact iv_mono hy h2 h4
theorem nar_b {a b : Int} {x : Int32} (h : iv a b x) (h0 : 0 ≤ a := by decide) (h1 : b ≤ 1 := by decide) : narrow .boolean (.int x) = .int x := by
  have e : x = 0 ∨ x = 1 := by
    have h2 := h.1
    have h3 := h.2
    rcases (show x.toInt = 0 ∨ x.toInt = 1 by omega) with q | q
    · exact Or.inl (Int32.toInt_inj.mp q)
    · exact Or.inr (Int32.toInt_inj.mp q)
  rcases e with rfl | rfl <;> rfl
theorem zero_of {x : Int32} (h : iv 0 0 x) : x = 0 := Int32.toInt_inj.mp (by have := h.1; have := h.2; have e : (0 : Int32).toInt = 0 := by decide
                                                                             omega)
theorem cp_le {a b : Int} {x : Int32} {n : Nat} (h : iv a b x) (h0 : 0 ≤ a) (hb : b ≤ n) : (0 : Int32).toNatClampNeg + x.toNatClampNeg ≤ n := by
  have e := iv_nat h h0
  have h2 := h.2
  have z : (0 : Int32).toNatClampNeg = 0 := by decide
  omega
theorem iv_min {a b c d : Int} {x y : Int32} {lo hi : Int} (hx : iv a b x) (hy : iv c d y) (h1 : lo ≤ min a c) (h2 : min b d ≤ hi) : iv lo hi (if y < x then y else x) := by
  obtain ⟨p1, p2⟩ := hx
  obtain ⟨q1, q2⟩ := hy
  by_cases h : y < x
  · rw [if_pos h]; rw [Int32.lt_iff_toInt_lt] at h; exact ⟨by omega, by omega⟩
  · rw [if_neg h]; rw [Int32.lt_iff_toInt_lt] at h; exact ⟨by omega, by omega⟩
theorem iv_max {a b c d : Int} {x y : Int32} {lo hi : Int} (hx : iv a b x) (hy : iv c d y) (h1 : lo ≤ max a c) (h2 : max b d ≤ hi) : iv lo hi (if x < y then y else x) := by
  obtain ⟨p1, p2⟩ := hx
  obtain ⟨q1, q2⟩ := hy
  by_cases h : x < y
  · rw [if_pos h]; rw [Int32.lt_iff_toInt_lt] at h; exact ⟨by omega, by omega⟩
  · rw [if_neg h]; rw [Int32.lt_iff_toInt_lt] at h; exact ⟨by omega, by omega⟩
theorem iv_rem {a b : Int} {x y : Int32} (hx : iv a b x) (n : Int) (hy : y.toInt = n) (hn : 0 < n) (ha : 0 ≤ a) : iv 0 (n - 1) (x - x / y * y) := by
  obtain ⟨p1, p2⟩ := hx
  have hne : y ≠ -1 := fun q => by rw [q] at hy; have : (-1 : Int32).toInt = -1 := by decide
                                   omega
  have e1 : (x / y).toInt = x.toInt / n := by rw [Int32.toInt_div_of_ne_right _ _ hne, hy]; exact Int.tdiv_eq_ediv_of_nonneg (by omega)
  have h0 : 0 ≤ x.toInt := by omega
  have h1 : 0 ≤ x.toInt / n := Int.ediv_nonneg h0 (by omega)
  have h2 := Int.mul_ediv_add_emod x.toInt n
  have h3 := Int.emod_nonneg x.toInt (show n ≠ 0 by omega)
  have h4 := Int.emod_lt_of_pos x.toInt hn
  have h5 : 0 ≤ n * (x.toInt / n) := Int.mul_nonneg (by omega) h1
  have hm1 := Int32.toInt_lt x
  have hm2 := Int32.le_toInt x
  have e2 : (x / y * y).toInt = x.toInt / n * n := by
    have := ti_mul (x := x / y) (y := y) (by rw [e1, hy, Int.mul_comm]; omega) (by rw [e1, hy, Int.mul_comm]; omega)
    rw [this, e1, hy]
  have e3 := ti_sub (x := x) (y := x / y * y) (by rw [e2, Int.mul_comm]; omega) (by rw [e2, Int.mul_comm]; omega)
  rw [e2, Int.mul_comm] at e3
  exact ⟨by omega, by omega⟩
theorem sI_self {z : TS} {j k : Nat} {v : Int32} : tI (setI z j k v) j k = v := by simp [setI, tI]
theorem sI_k {z : TS} {j k a b : Nat} {v w : Int32} (h : tI z a b = w) (hk : b ≠ k) : tI (setI z j k v) a b = w := by
  rw [← h]; show (if a = j ∧ b = k then v else tI z a b) = _; rw [if_neg (fun q => hk q.2)]
theorem sI_j {z : TS} {j k a b : Nat} {v w : Int32} (h : tI z a b = w) (hk : a ≠ j) : tI (setI z j k v) a b = w := by
  rw [← h]; show (if a = j ∧ b = k then v else tI z a b) = _; rw [if_neg (fun q => hk q.1)]
theorem sP_self {z : TS} {j k v : Nat} : tP (setP z j k v) j k = v := by simp [setP, tP]
theorem sP_k {z : TS} {j k a b v w : Nat} (h : tP z a b = w) (hk : b ≠ k) : tP (setP z j k v) a b = w := by
  rw [← h]; show (if a = j ∧ b = k then v else tP z a b) = _; rw [if_neg (fun q => hk q.2)]
theorem ro_ne {a j r r' : Nat} (h1 : ro a = r) (h2 : ro j = r') (h : r ≠ r') : a ≠ j := fun q => h (by rw [← h1, q, h2])
theorem lgc_iv (x y : Int64) : iv (-1) 1 (lg_cmp x y) := by
  unfold lg_cmp
  by_cases h1 : x > y
  · rw [if_pos h1]; exact ⟨by decide, by decide⟩
  · rw [if_neg h1]
    by_cases h2 : x = y
    · rw [if_pos h2]; exact ⟨by decide, by decide⟩
    · rw [if_neg h2]; exact ⟨by decide, by decide⟩
theorem ok_t {z : TS} {j i : Nat} {v : Int32} (h : Ok z) (hj : ro j = 4) (hv : iv (-1) 400 v) (hc : 0 ≤ v.toInt ∨ (tI z j 0).toInt ≤ i) : Ok (setR z (j + 3) (upd (tA z (j + 3)) i v)) := by
  have hjt : ro (j + 3) = 32 := ro_test j (ro_lt hj (by decide)) hj
  refine ⟨⟨h.1.1, fun a b => ?_, h.1.2.2⟩, fun a ha b hb => ?_⟩
  · show iv _ _ ((if a = j + 3 then upd (tA z (j + 3)) i v else tA z a) b)
    by_cases q : a = j + 3
    · rw [if_pos q, q, hjt, al_c (by decide), ah_c (by decide)]
      unfold upd
      by_cases q2 : b = i
      · rw [if_pos q2]; exact hv
      · rw [if_neg q2]; exact h.ac 32 hjt (by decide) b
    · rw [if_neg q]; exact h.1.2.1 a b
  · show 0 ≤ ((if a + 3 = j + 3 then upd (tA z (j + 3)) i v else tA z (a + 3)) b).toInt
    have hb' : (b : Int) < (tI z a 0).toInt := hb
    by_cases q : a + 3 = j + 3
    · have qa : a = j := by omega
      rw [if_pos q]
      unfold upd
      by_cases q2 : b = i
      · rw [if_pos q2]
        rcases hc with hc | hc
        · exact hc
        · rw [qa] at hb'; omega
      · rw [if_neg q2, ← qa]; exact h.2 a ha b hb'
    · rw [if_neg q]; exact h.2 a ha b hb'
theorem ok_n {z : TS} {j : Nat} {v : Int32} (h : Ok z) (hj : ro j = 4) (hv : iv 0 12 v) (hc : ∀ i : Nat, (i : Int) < v.toInt → 0 ≤ (tA z (j + 3) i).toInt) : Ok (setI z j 0 v) := by
  refine ⟨⟨fun a b => ?_, h.1.2.1, h.1.2.2⟩, fun a ha i hi => ?_⟩
  · show iv _ _ (if a = j ∧ b = 0 then v else tI z a b)
    by_cases q : a = j ∧ b = 0
    · rw [if_pos q, q.1, q.2, hj]; exact hv
    · rw [if_neg q]; exact h.1.1 a b
  · have hi' : (i : Int) < (if a = j ∧ 0 = 0 then v else tI z a 0).toInt := hi
    show 0 ≤ (tA z (a + 3) i).toInt
    by_cases q : a = j
    · rw [if_pos ⟨q, rfl⟩] at hi'; rw [q]; exact hc i hi'
    · rw [if_neg (fun w => q w.1)] at hi'; exact h.2 a ha i hi'
theorem sR_self {z : TS} {j i : Nat} {v : Int32} : tA (setR z j (upd (tA z j) i v)) j i = v := by simp [setR, tA, upd]
theorem okR_up {z : TS} {j : Nat} {c v : Int32} (h : Ok z) (hj : ro j = 4) (hc : tI z j 0 = c) (hb : iv 0 11 c) (e : v = c + 1) (ht : 0 ≤ (tA z (j + 3) c.toNatClampNeg).toInt) : ∀ i : Nat, (i : Int) < v.toInt → 0 ≤ (tA z (j + 3) i).toInt := by
  intro i hi
  have e1 : v.toInt = c.toInt + 1 := by rw [e]; exact ti_addc 1 (by decide) hb (by decide) (by decide)
  have e2 := iv_nat hb (by decide)
  by_cases q : i = c.toNatClampNeg
  · rw [q]; exact ht
  · exact h.2 j hj i (by rw [hc]; omega)
theorem zr_no {z : TS} {j : Nat} : ∀ i : Nat, (i : Int) < (0 : Int32).toInt → 0 ≤ (tA z j i).toInt := fun i hi => by
  have e : ((0 : Int32).toInt) = 0 := by decide
  rw [e] at hi
  omega
theorem i2l_ne {a b : Int} {x : Int32} (h : iv a b x) (ha : 0 < a) : ¬ x.toInt64 = 0 := fun q => by
  have e := Int32.toInt_toInt64 x
  rw [q] at e
  have z : (0 : Int64).toInt = 0 := by decide
  have := h.1
  omega
theorem iv_shl8 {x : Int32} (h : iv 0 8 x) : iv 1 256 ((1 : Int32) <<< (x &&& 31)) := by
  have h1 := h.1
  have h2 := h.2
  rcases (show x.toInt = 0 ∨ x.toInt = 1 ∨ x.toInt = 2 ∨ x.toInt = 3 ∨ x.toInt = 4 ∨ x.toInt = 5 ∨ x.toInt = 6 ∨ x.toInt = 7 ∨ x.toInt = 8 by omega) with q | q | q | q | q | q | q | q | q <;>
    (have e := Int32.ofInt_toInt x; rw [q] at e; subst e; exact ⟨by decide, by decide⟩)
theorem iv_div {a b : Int} {x y : Int32} {lo hi : Int} (hx : iv a b x) (n : Int) (hy : y.toInt = n) (hn : 0 < n) (ha : 0 ≤ a) (h1 : lo ≤ a / n) (h2 : b / n ≤ hi) : iv lo hi (x / y) := by
  obtain ⟨p1, p2⟩ := hx
  have hne : y ≠ -1 := fun q => by rw [q] at hy; have : (-1 : Int32).toInt = -1 := by decide
                                   omega
  have e1 : (x / y).toInt = x.toInt / n := by rw [Int32.toInt_div_of_ne_right _ _ hne, hy]; exact Int.tdiv_eq_ediv_of_nonneg (by omega)
  have m1 := Int.ediv_le_ediv hn p1
  have m2 := Int.ediv_le_ediv hn p2
  exact ⟨by omega, by omega⟩
/-! stronger: only some fields change -/
def KF (f : Nat → Nat → Bool) (g : Nat → Bool) (z u : TS) : Prop := KI f z u ∧ KA g z u ∧ tJ u = tJ z ∧ tP u = tP z
theorem KF.rf {f : Nat → Nat → Bool} {g : Nat → Bool} {z : TS} : KF f g z z := ⟨KI.rf, KA.rf, rfl, rfl⟩
theorem KF.tr {f : Nat → Nat → Bool} {g : Nat → Bool} {z u w : TS} (h1 : KF f g z u) (h2 : KF f g u w) : KF f g z w := ⟨h1.1.tr h2.1, h1.2.1.tr h2.2.1, h2.2.2.1.trans h1.2.2.1, h2.2.2.2.trans h1.2.2.2⟩
theorem KF_i {f : Nat → Nat → Bool} {g : Nat → Bool} {z : TS} {j k : Nat} {v : Int32} (ci : Nat) (hj : ro j = ci) (h : f ci k = false) : KF f g z (setI z j k v) := ⟨KI_setI hj h, KA.rf, rfl, rfl⟩
theorem KF_r {f : Nat → Nat → Bool} {g : Nat → Bool} {z : TS} {j : Nat} {w : Nat → Int32} (r : Nat) (hj : ro j = r) (h : g r = false) : KF f g z (setR z j w) := ⟨KI.rf, KA_setR hj h, rfl, rfl⟩
/-- what a row of numbers or a field keeps -/
theorem KF.i {f : Nat → Nat → Bool} {g : Nat → Bool} {z u : TS} (h : KF f g z u) {j k : Nat} {v : Int32} (ci : Nat) (hj : ro j = ci) (hf : f ci k = true) (e : tI z j k = v) : tI u j k = v := by
  rw [h.1 j k (by rw [hj]; exact hf)]; exact e
theorem KF.a {f : Nat → Nat → Bool} {g : Nat → Bool} {z u : TS} (h : KF f g z u) {j : Nat} (r : Nat) (hj : ro j = r) (hf : g r = true) : tA u j = tA z j := (h.2.1 j (by rw [hj]; exact hf)).1
theorem KF.p {f : Nat → Nat → Bool} {g : Nat → Bool} {z u : TS} (h : KF f g z u) {j k v : Nat} (e : tP z j k = v) : tP u j k = v := by rw [h.2.2.2]; exact e
/-- only bits of a state -/
abbrev KS : TS → TS → Prop := KF (fun r k => !(r == 6 && k == 6)) (fun _ => true)
/-- only the tape's numbers -/
abbrev KT : TS → TS → Prop := KF (fun r _ => !(r == 7)) (fun _ => true)
/-- only the tape's numbers and a reader's row -/
abbrev KN : TS → TS → Prop := KF (fun r _ => !(r == 7)) (fun r => !(r == 34))
theorem kci_ne {r k : Nat} (h : kci r k = true) : r = 2 ∨ r = 10 ∨ r = 11 := by
  unfold kci kxi at h
  simp only [Bool.or_eq_true, Bool.and_eq_true, beq_iff_eq] at h
  omega
theorem kca_ge {r : Nat} (h : kca r = true) : 45 ≤ r := of_decide_eq_true h
theorem KF.c {f : Nat → Nat → Bool} {g : Nat → Bool} {z u : TS} (h : KF f g z u) (hf : ∀ k, f 2 k = true ∧ f 10 k = true ∧ f 11 k = true) (hg : ∀ r, 45 ≤ r → g r = true) : KC z u :=
  ⟨fun j k q => h.1 j k (by rcases kci_ne q with e | e | e <;> rw [e] <;> first | exact (hf k).1 | exact (hf k).2.1 | exact (hf k).2.2), fun j q => h.2.1 j (hg _ (kca_ge q)), h.2.2.1⟩
theorem KS.c {z u : TS} (h : KS z u) : KC z u := KF.c h (fun _ => ⟨rfl, rfl, rfl⟩) (fun _ _ => rfl)
theorem KT.c {z u : TS} (h : KT z u) : KC z u := KF.c h (fun _ => ⟨rfl, rfl, rfl⟩) (fun _ _ => rfl)
theorem KN.c {z u : TS} (h : KN z u) : KC z u := KF.c h (fun _ => ⟨rfl, rfl, rfl⟩) (fun r hr => by
  show (!(r == 34)) = true
  rw [Bool.not_eq_true', beq_eq_false_iff_ne]; omega)
theorem KT.n {z u : TS} (h : KT z u) : KN z u := ⟨h.1, fun j q => h.2.1 j rfl, h.2.2⟩
