/-! the region as one world, by positions -/
abbrev TS : Type := (Nat → Nat → Int32) × (Nat → Nat → Nat) × (Nat → Nat → Int32) × (Nat → Nat → Int64) × Int64
abbrev tI (z : TS) : Nat → Nat → Int32 := z.1
abbrev tP (z : TS) : Nat → Nat → Nat := z.2.1
abbrev tA (z : TS) : Nat → Nat → Int32 := z.2.2.1
abbrev tL (z : TS) : Nat → Nat → Int64 := z.2.2.2.1
abbrev tJ (z : TS) : Int64 := z.2.2.2.2
def fvl (ad : Nat → Nat) (z : TS) (ci j k : Nat) : Value := match fsp ci k with
  | 0 => .int (tI z j k)
  | 1 => .long (tJ z)
  | 2 => .ref (ad (tP z j k))
  | n + 3 => .ref (ad (j + n))
def flds (ad : Nat → Nat) (z : TS) (ci j : Nat) : List Value := (List.range (nfl ci)).map (fvl ad z ci j)
def rowE (ad : Nat → Nat) (z : TS) (j : Nat) : (Nat → Int32) ⊕ (Nat → Int64) ⊕ (Nat → UInt32) ⊕ (Nat → UInt64) ⊕ (Nat → Option Nat) :=
  if akK (ro j) = 2 then .inr (.inl (tL z j)) else if 4 ≤ akK (ro j) then .inr (.inr (.inr (.inr (fun i => some (ad (j + 1 + qst (ro j) * i)))))) else .inl (tA z j)
def cellE (K : Nat → ClassId) (ad : Nat → Nat) (z : TS) (j : Nat) : va_E := if ro j < 12 then .inr (ro j, flds ad z (ro j) j) else .inl (K (akK (ro j)), akN (ro j), rowE ad z j)
def wd (K : Nat → ClassId) (ad : Nat → Nat) (z : TS) : va_W := (List.range 409).map (fun j => (ad j, cellE K ad z j))
theorem wd_len {K : Nat → ClassId} {ad : Nat → Nat} {z : TS} : (wd K ad z).length = 409 := by simp [wd]
theorem wd_at {K : Nat → ClassId} {ad : Nat → Nat} {z : TS} {j : Nat} (hj : j < 409) : (wd K ad z)[j]? = some (ad j, cellE K ad z j) := by
  simp [wd, List.getElem?_map, List.getElem?_range hj]
theorem wd_out {K : Nat → ClassId} {ad : Nat → Nat} {z : TS} {j : Nat} (hj : 409 ≤ j) : (wd K ad z)[j]? = none := by
  rw [List.getElem?_eq_none_iff, wd_len]; exact hj
theorem ro_lt {j r : Nat} (h : ro j = r) (hr : r < 99) : j < 409 := by
  rcases Nat.lt_or_ge j 409 with q | q
  · exact q
  · exfalso
    have : ro j = 99 := by
      unfold ro
      rw [List.getD_eq_getElem?_getD, List.getElem?_eq_none_iff.mpr (by have : roL.length = 409 := by decide +kernel
                                                                        omega)]
      rfl
    omega
theorem cell_obj {K : Nat → ClassId} {ad : Nat → Nat} {z : TS} {j ci : Nat} (h : ro j = ci) (hc : ci < 12) : cellE K ad z j = .inr (ci, flds ad z ci j) := by
  subst h; unfold cellE; rw [if_pos hc]
theorem cell_row {K : Nat → ClassId} {ad : Nat → Nat} {z : TS} {j r : Nat} (h : ro j = r) (hr : 20 ≤ r) : cellE K ad z j = .inl (K (akK r), akN r, rowE ad z j) := by
  subst h; unfold cellE; rw [if_neg (by omega)]
theorem row_int {ad : Nat → Nat} {z : TS} {j r : Nat} (h : ro j = r) (h2 : akK r ≠ 2) (h4 : akK r < 4) : rowE ad z j = .inl (tA z j) := by
  subst h; unfold rowE; rw [if_neg h2, if_neg (by omega)]
theorem row_long {ad : Nat → Nat} {z : TS} {j r : Nat} (h : ro j = r) (h2 : akK r = 2) : rowE ad z j = .inr (.inl (tL z j)) := by
  subst h; unfold rowE; rw [if_pos h2]
theorem row_ref {ad : Nat → Nat} {z : TS} {j r : Nat} (h : ro j = r) (h4 : 4 ≤ akK r) : rowE ad z j = .inr (.inr (.inr (.inr (fun i => some (ad (j + 1 + qst r * i)))))) := by
  subst h; unfold rowE; rw [if_neg (by omega), if_pos h4]
theorem flds_at {ad : Nat → Nat} {z : TS} {ci j k : Nat} (hk : k < nfl ci) : (flds ad z ci j)[k]? = some (fvl ad z ci j k) := by
  simp [flds, List.getElem?_map, List.getElem?_range hk]
theorem flds_len {ad : Nat → Nat} {z : TS} {ci j : Nat} : (flds ad z ci j).length = nfl ci := by simp [flds]
theorem fvl_i {ad : Nat → Nat} {z : TS} {ci j k : Nat} (h : fsp ci k = 0) : fvl ad z ci j k = .int (tI z j k) := by unfold fvl; rw [h]
theorem fvl_J {ad : Nat → Nat} {z : TS} {ci j k : Nat} (h : fsp ci k = 1) : fvl ad z ci j k = .long (tJ z) := by unfold fvl; rw [h]
theorem fvl_d {ad : Nat → Nat} {z : TS} {ci j k : Nat} (h : fsp ci k = 2) : fvl ad z ci j k = .ref (ad (tP z j k)) := by unfold fvl; rw [h]
theorem fvl_o {ad : Nat → Nat} {z : TS} {ci j k n : Nat} (h : fsp ci k = n + 3) : fvl ad z ci j k = .ref (ad (j + n)) := by unfold fvl; rw [h]
/-! changes -/
def setI (z : TS) (j k : Nat) (v : Int32) : TS := (fun a b => if a = j ∧ b = k then v else tI z a b, tP z, tA z, tL z, tJ z)
def setP (z : TS) (j k : Nat) (v : Nat) : TS := (tI z, fun a b => if a = j ∧ b = k then v else tP z a b, tA z, tL z, tJ z)
def setR (z : TS) (j : Nat) (f : Nat → Int32) : TS := (tI z, tP z, fun a => if a = j then f else tA z a, tL z, tJ z)
def setL (z : TS) (j : Nat) (f : Nat → Int64) : TS := (tI z, tP z, tA z, fun a => if a = j then f else tL z a, tJ z)
def setJ (z : TS) (v : Int64) : TS := (tI z, tP z, tA z, tL z, v)
theorem wd_ext {K : Nat → ClassId} {ad : Nat → Nat} {z z' : TS} {j : Nat} {e : va_E} (hj : j < 409) (he : cellE K ad z' j = e) (ho : ∀ i, i ≠ j → cellE K ad z' i = cellE K ad z i) : (wd K ad z).set j (ad j, e) = wd K ad z' := by
  apply List.ext_getElem?
  intro i
  rcases Nat.lt_or_ge i 409 with q | q
  · by_cases hi : i = j
    · subst hi
      rw [List.getElem?_set_self (by rw [wd_len]; exact q), wd_at q, he]
    · rw [List.getElem?_set_ne (Ne.symm hi), wd_at q, wd_at q, ho i hi]
  · rw [wd_out q, List.getElem?_eq_none_iff, List.length_set, wd_len]; exact q
theorem flds_set {ad : Nat → Nat} {z z' : TS} {ci j k : Nat} {v : Value} (hk : k < nfl ci) (hv : fvl ad z' ci j k = v) (ho : ∀ b, b ≠ k → fvl ad z' ci j b = fvl ad z ci j b) : flds ad z' ci j = (flds ad z ci j).set k v := by
  apply List.ext_getElem?
  intro i
  rcases Nat.lt_or_ge i (nfl ci) with q | q
  · by_cases hi : i = k
    · subst hi
      rw [List.getElem?_set_self (by rw [flds_len]; exact q), flds_at q, hv]
    · rw [List.getElem?_set_ne (Ne.symm hi), flds_at q, flds_at q, ho i hi]
  · rw [List.getElem?_eq_none_iff.mpr (by rw [flds_len]; exact q), List.getElem?_eq_none_iff.mpr (by rw [List.length_set, flds_len]; exact q)]
theorem flds_congr {ad : Nat → Nat} {z z' : TS} {ci j : Nat} (h : ∀ b, fvl ad z' ci j b = fvl ad z ci j b) : flds ad z' ci j = flds ad z ci j := by
  unfold flds; exact List.map_congr_left (fun b _ => h b)
theorem cell_congr {K : Nat → ClassId} {ad : Nat → Nat} {z z' : TS} {i : Nat} (h1 : ∀ ci b, fvl ad z' ci i b = fvl ad z ci i b) (h2 : rowE ad z' i = rowE ad z i) : cellE K ad z' i = cellE K ad z i := by
  unfold cellE; rw [flds_congr (h1 _), h2]
theorem wd_setI {K : Nat → ClassId} {ad : Nat → Nat} {z : TS} {j ci k : Nat} {v : Int32} (h : ro j = ci) (hc : ci < 12) (hk : k < nfl ci) (hs : fsp ci k = 0) : (wd K ad z).set j (ad j, .inr (ci, (flds ad z ci j).set k (.int v))) = wd K ad (setI z j k v) := by
  refine wd_ext (ro_lt h (by omega)) ?_ (fun i hi => cell_congr (fun c b => ?_) rfl)
  · rw [cell_obj h hc, ← flds_set (z' := setI z j k v) hk (by rw [fvl_i hs]; simp [setI, tI]) (fun b hb => ?_)]
    unfold fvl setI
    split <;> simp [hb, tI, tP, tJ]
  · unfold fvl setI
    split <;> simp [hi, tI, tP, tJ]
theorem wd_setP {K : Nat → ClassId} {ad : Nat → Nat} {z : TS} {j ci k : Nat} {v : Nat} (h : ro j = ci) (hc : ci < 12) (hk : k < nfl ci) (hs : fsp ci k = 2) : (wd K ad z).set j (ad j, .inr (ci, (flds ad z ci j).set k (.ref (ad v)))) = wd K ad (setP z j k v) := by
  refine wd_ext (ro_lt h (by omega)) ?_ (fun i hi => cell_congr (fun c b => ?_) rfl)
  · rw [cell_obj h hc, ← flds_set (z' := setP z j k v) hk (by rw [fvl_d hs]; simp [setP, tP]) (fun b hb => ?_)]
    unfold fvl setP
    split <;> simp [hb, tI, tP, tJ]
  · unfold fvl setP
    split <;> simp [hi, tI, tP, tJ]
theorem wd_setR {K : Nat → ClassId} {ad : Nat → Nat} {z : TS} {j r : Nat} {f : Nat → Int32} (h : ro j = r) (hr : 20 ≤ r) (hr9 : r < 99) (h2 : akK r ≠ 2) (h4 : akK r < 4) : (wd K ad z).set j (ad j, .inl (K (akK r), akN r, .inl f)) = wd K ad (setR z j f) := by
  refine wd_ext (ro_lt h hr9) ?_ (fun i hi => cell_congr (fun c b => rfl) ?_)
  · rw [cell_row h hr, row_int h h2 h4]; simp [setR, tA]
  · unfold rowE setR; simp [hi, tA, tL]
theorem wd_setL {K : Nat → ClassId} {ad : Nat → Nat} {z : TS} {j r : Nat} {f : Nat → Int64} (h : ro j = r) (hr : 20 ≤ r) (hr9 : r < 99) (h2 : akK r = 2) : (wd K ad z).set j (ad j, .inl (K (akK r), akN r, .inr (.inl f))) = wd K ad (setL z j f) := by
  refine wd_ext (ro_lt h hr9) ?_ (fun i hi => cell_congr (fun c b => rfl) ?_)
  · rw [cell_row h hr, row_long h h2]; simp [setL, tL]
  · unfold rowE setL; simp [hi, tA, tL]
/-! intervals -/
def iv (lo hi : Int) (x : Int32) : Prop := lo ≤ x.toInt ∧ x.toInt ≤ hi
theorem iv_full (x : Int32) : iv (-2147483648) 2147483647 x := ⟨by have := Int32.le_toInt x; omega, by have := Int32.toInt_lt x; omega⟩
theorem iv_mono {a b c d : Int} {x : Int32} (h : iv a b x) (h1 : c ≤ a) (h2 : b ≤ d) : iv c d x := ⟨Int.le_trans h1 h.1, Int.le_trans h.2 h2⟩
theorem iv_vp {a b : Int} {n : Nat} {x : Int32} (h : iv a b x) (h1 : 0 ≤ a) (h2 : b < n) : vp_in x n := vp_in_iff.mpr ⟨by have := h.1; omega, by have := h.2; omega⟩
theorem iv_nat {a b : Int} {x : Int32} (h : iv a b x) (h1 : 0 ≤ a) : (x.toNatClampNeg : Int) = x.toInt := by
  have h2 := h.1
  rw [Int32.toNatClampNeg]
  omega
/-- rows may hold more than their role asks of all: what the law and the rules want -/
def Ok0 (z : TS) : Prop := (∀ j k, iv (ilo (ro j) k) (ihi (ro j) k) (tI z j k)) ∧ (∀ j i, iv (alo (ro j) i) (ahi (ro j) i) (tA z j i)) ∧ (∀ j k, dyr (ro j) k < 97 → at_ (dyr (ro j) k) (tP z j k) = true)
/-- of a rule: a closed clause's test begins somewhere -/
def OkR (z : TS) : Prop := ∀ j, ro j = 4 → ∀ i : Nat, (i : Int) < (tI z j 0).toInt → 0 ≤ (tA z (j + 3) i).toInt
