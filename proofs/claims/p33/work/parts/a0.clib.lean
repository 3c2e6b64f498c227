/-! the first state -/
def i0 (r k : Nat) : Int32 := if r = 7 ∧ k = 3 then 40 else if r = 2 ∧ k = 3 then -1 else if r = 11 ∧ k = 21 then -1 else 0
def p0 (j k : Nat) : Nat := if j = 3 then (if k = 0 then 346 else 348) else if j = 5 then (if k = 0 then 361 else 363) else if j = 324 then (if k = 4 then 368 else 381) else 0
def Z0 : TS := (fun j k => i0 (ro j) k, p0, fun _ _ => 0, fun _ _ => 0, 0)
def fz (g : Nat → Nat) (ci j k : Nat) : Value := match fsp ci k with
  | 0 => .int (i0 ci k)
  | 1 => .long 0
  | 2 => .ref (g (p0 j k))
  | n + 3 => .ref (g (j + n))
def rowF (g : Nat → Nat) (r j : Nat) : (Nat → Int32) ⊕ (Nat → Int64) ⊕ (Nat → UInt32) ⊕ (Nat → UInt64) ⊕ (Nat → Option Nat) :=
  if akK r = 2 then .inr (.inl (fun _ => 0)) else if 4 ≤ akK r then .inr (.inr (.inr (.inr (fun i => if i < akN r then some (g (j + 1 + qst r * i)) else none)))) else .inl (fun _ => 0)
def cellF (K : Nat → ClassId) (g : Nat → Nat) (j : Nat) : va_E := if ro j < 12 then .inr (ro j, (List.range (nfl (ro j))).map (fz g (ro j) j)) else .inl (K (akK (ro j)), akN (ro j), rowF g (ro j) j)
theorem cf_o {K : Nat → ClassId} {g : Nat → Nat} {j ci : Nat} (h : ro j = ci) (hc : ci < 12) : cellF K g j = .inr (ci, (List.range (nfl ci)).map (fz g ci j)) := by subst h; unfold cellF; rw [if_pos hc]
theorem cf_r {K : Nat → ClassId} {g : Nat → Nat} {j r : Nat} (h : ro j = r) (hr : 20 ≤ r) : cellF K g j = .inl (K (akK r), akN r, rowF g r j) := by subst h; unfold cellF; rw [if_neg (by omega)]
def Bk (K : Nat → ClassId) (p n : Nat) (g : Nat → Nat) : va_W := (List.range n).map (fun i => (g (p + i), cellF K g (p + i)))
theorem Bk_split {K : Nat → ClassId} {g : Nat → Nat} (p n m : Nat) : Bk K p (n + m) g = Bk K p n g ++ Bk K (p + n) m g := by
  unfold Bk
  rw [List.range_add, List.map_append, List.map_map]
  congr 1
  refine List.map_congr_left (fun i _ => ?_)
  show (g (p + (n + i)), cellF K g (p + (n + i))) = _
  rw [← Nat.add_assoc]
theorem Bk_one {K : Nat → ClassId} {g : Nat → Nat} (p : Nat) : Bk K p 1 g = [(g p, cellF K g p)] := rfl
theorem Bk_nil {K : Nat → ClassId} {g : Nat → Nat} (p : Nat) : Bk K p 0 g = [] := rfl
/-- what a cell points at -/
def rfs (r j : Nat) : List Nat := if r < 12 then (List.range (nfl r)).filterMap (fun k => match fsp r k with
  | 0 => none
  | 1 => none
  | 2 => some (p0 j k)
  | n + 3 => some (j + n)) else if 4 ≤ akK r then (List.range (akN r)).map (fun i => j + 1 + qst r * i) else []
theorem cf_cg {K : Nat → ClassId} {g g' : Nat → Nat} {j : Nat} (h : ∀ q ∈ rfs (ro j) j, g q = g' q) : cellF K g j = cellF K g' j := by
  unfold cellF
  unfold rfs at h
  by_cases hc : ro j < 12
  · rw [if_pos hc] at h
    rw [if_pos hc, if_pos hc]
    have e : (List.range (nfl (ro j))).map (fz g (ro j) j) = (List.range (nfl (ro j))).map (fz g' (ro j) j) := by
      refine List.map_congr_left (fun k hk => ?_)
      have hq : ∀ q, (match fsp (ro j) k with | 0 => none | 1 => none | 2 => some (p0 j k) | n + 3 => some (j + n)) = some q → g q = g' q := fun q hq => h q (List.mem_filterMap.mpr ⟨k, hk, hq⟩)
      unfold fz
      split <;> rename_i e
      · rfl
      · rfl
      · rw [hq (p0 j k) (by rw [e])]
      · rename_i n
        rw [hq (j + n) (by rw [e])]
    rw [e]
  · rw [if_neg hc] at h
    rw [if_neg hc, if_neg hc]
    have e : rowF g (ro j) j = rowF g' (ro j) j := by
      unfold rowF
      by_cases h2 : akK (ro j) = 2
      · rw [if_pos h2, if_pos h2]
      · rw [if_neg h2, if_neg h2]
        by_cases h4 : 4 ≤ akK (ro j)
        · rw [if_pos h4] at h
          rw [if_pos h4, if_pos h4]
          have : (fun i => if i < akN (ro j) then some (g (j + 1 + qst (ro j) * i)) else none) = (fun i => if i < akN (ro j) then some (g' (j + 1 + qst (ro j) * i)) else none) := by
            funext i
            by_cases hi : i < akN (ro j)
            · rw [if_pos hi, if_pos hi, h _ (List.mem_map.mpr ⟨i, List.mem_range.mpr hi, rfl⟩)]
            · rw [if_neg hi, if_neg hi]
          rw [this]
        · rw [if_neg h4, if_neg h4]
    rw [e]
theorem Bk_cg {K : Nat → ClassId} {g g' : Nat → Nat} {p n : Nat} (hg : ∀ i, i < n → g (p + i) = g' (p + i)) (hr : ∀ i, i < n → ∀ q ∈ rfs (ro (p + i)) (p + i), g q = g' q) : Bk K p n g = Bk K p n g' := by
  unfold Bk
  refine List.map_congr_left (fun i hi => ?_)
  have hi := List.mem_range.mp hi
  rw [hg i hi, cf_cg (hr i hi)]
theorem Bk_cc {K : Nat → ClassId} {g g' : Nat → Nat} (p n : Nat) (hc : ((List.range n).all fun i => (rfs (ro (p + i)) (p + i)).all fun q => decide (p ≤ q ∧ q < p + n)) = true) (hg : ∀ i, i < n → g (p + i) = g' (p + i)) : Bk K p n g = Bk K p n g' := by
  refine Bk_cg hg (fun i hi q hq => ?_)
  have h1 := of_decide_eq_true (List.all_eq_true.mp (List.all_eq_true.mp hc i (List.mem_range.mpr hi)) q hq)
  have h2 := hg (q - p) (by omega)
  rwa [show p + (q - p) = q by omega] at h2
theorem fsp_2 : ∀ r, r < 12 → ∀ k, k < 40 → fsp r k = 2 → r = 1 ∨ r = 5 ∨ r = 9 := by decide +kernel
theorem rfs_sh {r p i q : Nat} (hr : r ≠ 1 ∧ r ≠ 5 ∧ r ≠ 9) (hq : q ∈ rfs r (p + i)) : ∃ q', q' ∈ rfs r i ∧ q = p + q' := by
  unfold rfs at hq ⊢
  by_cases hc : r < 12
  · rw [if_pos hc] at hq ⊢
    obtain ⟨k, hk, e⟩ := List.mem_filterMap.mp hq
    have hk40 := Nat.lt_trans (List.mem_range.mp hk) (nfl_40 r hc)
    split at e <;> rename_i e2
    · cases e
    · cases e
    · have := fsp_2 r hc k hk40 e2; omega
    · rename_i n
      refine ⟨i + n, List.mem_filterMap.mpr ⟨k, hk, by rw [e2]⟩, ?_⟩
      have := Option.some.inj e
      omega
  · rw [if_neg hc] at hq ⊢
    by_cases h4 : 4 ≤ akK r
    · rw [if_pos h4] at hq ⊢
      obtain ⟨k, hk, e⟩ := List.mem_map.mp hq
      exact ⟨_, List.mem_map.mpr ⟨k, hk, rfl⟩, by omega⟩
    · rw [if_neg h4] at hq; cases hq
theorem Bk_ca {K : Nat → ClassId} {g g' : Nat → Nat} {p n : Nat} (ci : Nat) (h : at_ ci p = true) (hn : n = (blk ci).length) (hc : ((List.range (blk ci).length).all fun i => decide ((blk ci).getD i 98 ≠ 1 ∧ (blk ci).getD i 98 ≠ 5 ∧ (blk ci).getD i 98 ≠ 9) && (rfs ((blk ci).getD i 98) i).all fun q => decide (q < (blk ci).length)) = true) (hg : ∀ i, i < n → g (p + i) = g' (p + i)) : Bk K p n g = Bk K p n g' := by
  refine Bk_cg hg (fun i hi q hq => ?_)
  rw [at_ro h (by omega)] at hq
  have h1 := List.all_eq_true.mp hc i (List.mem_range.mpr (by omega))
  rw [Bool.and_eq_true] at h1
  obtain ⟨q', hq', e⟩ := rfs_sh (of_decide_eq_true h1.1) hq
  have h2 := of_decide_eq_true (List.all_eq_true.mp h1.2 q' hq')
  rw [e]
  exact hg q' (by omega)
section MGP
variable {p : Program} {l : Launch} {e : Env} {R : Room} {s : State} {m : MethodId} {args : Array Value} {below : List Frame} {meth : Method} {c : Code} {H : Heap} {locs : List Loc} {Q : State → Prop}
variable {cc bytes : ByteArray} {nL maxL pc index cells slots : Nat} {ls : Array Slot} {rest : List Value} {D : va_G} {K : Nat → ClassId} {A : Nat → Prop} {own : String} {ws ws' : va_W}
theorem nd_of (h : ∀ (i j : Nat) (p q : Nat × va_E), ws[i]? = some p → ws[j]? = some q → p.1 = q.1 → i = j) : (ws.map (fun q => q.1)).Nodup := by
  rw [List.Nodup, List.pairwise_iff_getElem]
  intro i j hi hj hij e
  rw [List.length_map] at hi hj
  rw [List.getElem_map, List.getElem_map] at e
  have := h i j _ _ (List.getElem?_eq_getElem hi) (List.getElem?_eq_getElem hj) e
  omega
theorem of_nd (h : (ws.map (fun q => q.1)).Nodup) : ∀ (i j : Nat) (p q : Nat × va_E), ws[i]? = some p → ws[j]? = some q → p.1 = q.1 → i = j := by
  intro i j p q hi hj e
  rw [List.Nodup, List.pairwise_iff_getElem] at h
  obtain ⟨hi1, hi2⟩ := List.getElem?_eq_some_iff.mp hi
  obtain ⟨hj1, hj2⟩ := List.getElem?_eq_some_iff.mp hj
  rcases Nat.lt_trichotomy i j with w | w | w
  · exact absurd (by rw [List.getElem_map, List.getElem_map, hi2, hj2]; exact e) (h i j (by rw [List.length_map]; exact hi1) (by rw [List.length_map]; exact hj1) w)
  · exact w
  · exact absurd (by rw [List.getElem_map, List.getElem_map, hi2, hj2]; exact e.symm) (h j i (by rw [List.length_map]; exact hj1) (by rw [List.length_map]; exact hi1) w)
theorem mG.pm (G : mG D A s H locs ws) (h : ws.Perm ws') : mG D A s H locs ws' := by
  refine ⟨fun k q hk => ?_, ⟨of_nd ((h.map _).nodup_iff.mp (nd_of G.2.1.1)), fun k q hk => ?_⟩, G.2.2⟩
  · obtain ⟨k', hk'⟩ := List.getElem?_of_mem (h.mem_iff.mpr (List.mem_of_getElem? hk))
    exact G.1 k' q hk'
  · obtain ⟨k', hk'⟩ := List.getElem?_of_mem (h.mem_iff.mpr (List.mem_of_getElem? hk))
    exact G.2.1.2 k' q hk'
theorem nd_rng : ∀ n k, va_nd ((List.range n).map (fun i => i + k)) = true := by
  intro n
  induction n with
  | zero => intro k; rfl
  | succ n ih =>
    intro k
    rw [List.range_succ_eq_map, List.map_cons, List.map_map]
    show (decide (0 + k ∉ _) && va_nd _) = true
    have e : (List.range n).map ((fun i => i + k) ∘ Nat.succ) = (List.range n).map (fun i => i + (k + 1)) := List.map_congr_left (fun i _ => by show i + 1 + k = i + (k + 1); omega)
    rw [e, ih (k + 1), Bool.and_true, decide_eq_true_eq]
    intro hm
    obtain ⟨i, _, hi⟩ := List.mem_map.mp hm
    omega
theorem rng_1 (x : Nat × va_E) (w : va_W) : ((List.range w.length).map (fun i => i + 1)).map (fun i => (x :: w)[i]?) = w.map some := by
  rw [List.map_map]
  exact rng_map w
theorem n_in {S : Type} {y : MethodName} {rm : Room} {wr : va_W} {b : Nat} {e0 : va_E} {post : S → Prop} {w2 : S → va_W} {st0 : List Value} {lvs : List (Nat × Value)} {host : String} (E : mE p s m meth c cc args nL own D K A) (G : mG D A s H locs ((b, e0) :: wr)) (hl : lv_has ls nL lvs) (hM : mV l y bytes maxL rm D K [(b, e0)] [.ref b] post w2)
    (hnm : y.name = "<init>") (hcode : Cond.code y bytes maxL none ∈ cw) (hini : Cond.initialized y.cls ∈ cw) (hlk : Cond.methodLinkNest own index y host ∈ cw) (hin : Cond.instanceMethod y ∈ cw) (hd : y.cls ≠ "java/lang/invoke/MethodHandle" ∧ y.cls ≠ "java/lang/invoke/VarHandle" ∧ (parseMethodDescriptor y.desc).map (fun d => d.parameters.length) = some 0) (hRm : rm.frames + 1 ≤ R.frames ∧ 8 + (maxL + 11) + rm.locals ≤ R.locals)
    (hst : st0 = .ref b :: rest) (hw : (rest.map fun v => v.category).sum ≤ 8) (hf : cells + rm.cells ≤ R.cells ∧ slots + rm.slots ≤ R.slots) (hdg : decode cc pc = .ok (.invokespecial index, 3))
    (kk : ∀ (u : S) (H1 : Heap) (locs1 : List Loc), post u → mG D A s H1 locs1 (wr ++ w2 u) → W p l e R s m args below meth c H1 locs1 (cells + rm.cells) (slots + rm.slots) Q (F0 m (pc + 3) ls rest)) : W p l e R s m args below meth c H locs cells slots Q (F0 m pc ls st0) :=
  m_in (As := []) E G hl hM [0] ((List.range wr.length).map (fun i => i + 1)) rfl (rng_1 _ _) rfl (nd_rng _ _) (fun i hi => by
    obtain ⟨k, _, hk⟩ := List.mem_map.mp hi
    simp; omega) 0 rfl hnm hcode hini hlk hin hd hRm hst hw hf hdg kk
theorem n_ii {S : Type} {y : MethodName} {rm : Room} {wr : va_W} {b : Nat} {e0 : va_E} {post : S → Prop} {w2 : S → va_W} {st0 : List Value} {lvs : List (Nat × Value)} (E : mE p s m meth c cc args nL own D K A) (G : mG D A s H locs ((b, e0) :: wr)) (hl : lv_has ls nL lvs) (hM : mV l y bytes maxL rm D K [(b, e0)] [.ref b] post w2)
    (hnm : y.name = "<init>") (hcode : Cond.code y bytes maxL none ∈ cw) (hini : Cond.initialized y.cls ∈ cw) (hlk : Cond.methodLink own index y ∈ cw) (hin : Cond.instanceMethod y ∈ cw) (hd : y.cls ≠ "java/lang/invoke/MethodHandle" ∧ y.cls ≠ "java/lang/invoke/VarHandle" ∧ (parseMethodDescriptor y.desc).map (fun d => d.parameters.length) = some 0) (hRm : rm.frames + 1 ≤ R.frames ∧ 8 + (maxL + 11) + rm.locals ≤ R.locals)
    (hst : st0 = .ref b :: rest) (hw : (rest.map fun v => v.category).sum ≤ 8) (hf : cells + rm.cells ≤ R.cells ∧ slots + rm.slots ≤ R.slots) (hdg : decode cc pc = .ok (.invokespecial index, 3))
    (kk : ∀ (u : S) (H1 : Heap) (locs1 : List Loc), post u → mG D A s H1 locs1 (wr ++ w2 u) → W p l e R s m args below meth c H1 locs1 (cells + rm.cells) (slots + rm.slots) Q (F0 m (pc + 3) ls rest)) : W p l e R s m args below meth c H locs cells slots Q (F0 m pc ls st0) :=
  m_ii (As := []) E G hl hM [0] ((List.range wr.length).map (fun i => i + 1)) rfl (rng_1 _ _) rfl (nd_rng _ _) (fun i hi => by
    obtain ⟨k, _, hk⟩ := List.mem_map.mp hi
    simp; omega) 0 rfl hnm hcode hini hlk hin hd hRm hst hw hf hdg kk
theorem n_retv {S : Type} {post : S → Prop} {w2 : S → va_W} {mc ms : Nat} (E : mE p s m meth c cc args nL own D K A) (G : mG D A s H locs ws) (hr : meth.sig.returnType = none) (u : S) (hp : post u) (hs : ws.Perm (w2 u)) (h1 : cells ≤ mc) (h2 : slots ≤ ms) (hdg : decode cc pc = .ok (.return_, 1)) :
    W p l e R s m args below meth c H locs cells slots (MQ below (va_Qv post (mB D A w2) A) args s mc ms A) (F0 m pc ls []) := by
  have G9 := G.pm hs
  refine W.widen (k := mc) (n := ms) h1 h2 ?_
  exact W.vret E.1 E.2.1 hr (fun t ht hW => ⟨⟨u, rfl, hp, by rw [ht]; exact G9.1, G9.2.1⟩, G9.2.2.F ht⟩) G9.2.2.2.2 hdg E.2.2.2.2.2.2.2.1
end MGP
theorem pm_of {f : Nat → va_W} {π : List Nat} {m : Nat} (h : (List.range m).Perm π) : (((List.range m).map f).flatten).Perm ((π.map f).flatten) := (h.map f).flatten
theorem pm_f (x : Nat × va_E) (w : va_W) : (w ++ [x]).Perm (x :: w) := List.perm_append_singleton x w
