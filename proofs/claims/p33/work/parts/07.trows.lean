/-! rows over the one world; cells and slots stay 0 -/
/-- contracts over the one world -/
def cI (l : Launch) (y : MethodName) (bytes : ByteArray) (maxL : Nat) (ret : FieldType) (rm : Room) (D : va_G) (K : Nat → ClassId) (ad : Nat → Nat) (z : TS) (av : List Value) (post : Int32 → TS → Prop) : Prop :=
  mI (S := TS) l y bytes maxL ret rm D K (wd K ad z) av post (fun u => wd K ad u)
def cV (l : Launch) (y : MethodName) (bytes : ByteArray) (maxL : Nat) (rm : Room) (D : va_G) (K : Nat → ClassId) (ad : Nat → Nat) (z : TS) (av : List Value) (post : TS → Prop) : Prop :=
  mV (S := TS) l y bytes maxL rm D K (wd K ad z) av post (fun u => wd K ad u)
def cL (l : Launch) (y : MethodName) (bytes : ByteArray) (maxL : Nat) (rm : Room) (D : va_G) (K : Nat → ClassId) (ad : Nat → Nat) (z : TS) (av : List Value) (post : Int64 → TS → Prop) : Prop :=
  ∀ sz : Nat, Met l y (cwd y bytes maxL (some .long)) rm (mPre D K (wd K ad z) sz av) (va_Ql post (mB D (va_A (wd K ad z) sz) (fun u : TS => wd K ad u)) (va_A (wd K ad z) sz)) rm.cells rm.slots (va_A (wd K ad z) sz)
/-- an answer that is a cell of the region: its position -/
def cR (l : Launch) (y : MethodName) (bytes : ByteArray) (maxL : Nat) (ret : FieldType) (rm : Room) (D : va_G) (K : Nat → ClassId) (ad : Nat → Nat) (z : TS) (av : List Value) (post : Nat → TS → Prop) : Prop :=
  ∀ sz : Nat, Met l y (cwd y bytes maxL (some ret)) rm (mPre D K (wd K ad z) sz av) (va_Qr (fun u : TS × Nat => post u.2 u.1) (fun u a t => a = ad u.2 ∧ mB D (va_A (wd K ad z) sz) (fun u : TS => wd K ad u) u.1 t) (va_A (wd K ad z) sz)) rm.cells rm.slots (va_A (wd K ad z) sz)
theorem rng_map (w : va_W) : (List.range w.length).map (fun i => w[i]?) = w.map some := by
  apply List.ext_getElem?
  intro i
  rcases Nat.lt_or_ge i w.length with q | q
  · rw [List.getElem?_map, List.getElem?_range q, List.getElem?_map]; simp [List.getElem?_eq_getElem q]
  · rw [List.getElem?_eq_none_iff.mpr (by simpa using q), List.getElem?_eq_none_iff.mpr (by simpa using q)]
theorem rng_wd {K : Nat → ClassId} {ad : Nat → Nat} {z : TS} : (List.range 409).map (fun i => (wd K ad z)[i]?) = (wd K ad z).map some := by
  have := rng_map (wd K ad z)
  rwa [wd_len] at this
theorem rng_nd : va_nd (List.range 409) = true := by decide +kernel
section TE
variable {l : Launch} {y : MethodName} {bytes : ByteArray} {maxL : Nat} {rm : Room} {D : va_G} {K : Nat → ClassId} {ad : Nat → Nat} {z : TS} {av : List Value}
theorem t_enterI {ret : FieldType} {post : Int32 → TS → Prop} (hy : plainName y.cls = true) (hn : (lg_sl av).length ≤ maxL) (hc : rm.cells = 0) (hs : rm.slots = 0)
    (body : ∀ (p : Program) (e : Env) (s : State) (m : MethodId) (args : Array Value) (below : List Frame) (meth : Method) (c : Code) (A : Nat → Prop) (R : Room) (Q : State → Prop) (H : Heap) (locs : List Loc) (ls : Array Slot), mE p s m meth c bytes args maxL y.cls D K A → rm.frames ≤ R.frames → rm.locals ≤ R.locals →
      (∀ {H : Heap} {locs : List Loc} {u : TS} {v : Int32} {pc : Nat} {ls : Array Slot}, mG D A s H locs (wd K ad u) → post v u → narrow ret (.int v) = .int v → decode bytes pc = .ok (.ireturn, 1) → W p l e R s m args below meth c H locs 0 0 Q (F0 m pc ls [.int v])) →
      mG D A s H locs (wd K ad z) → lv_has ls maxL (lv_args 0 av) → W p l e R s m args below meth c H locs 0 0 Q (F0 m 0 ls [])) :
    cI l y bytes maxL ret rm D K ad z av post := by
  refine m_enterI hy hn (fun p e s m args below meth c A ls E hr G hl => body p e s m args below meth c A rm _ _ _ ls E (Nat.le_refl _) (Nat.le_refl _) ?_ G hl)
  intro H locs u v pc ls G9 hp hnw hd
  refine W.widen (k := rm.cells) (n := rm.slots) (by omega) (by omega) ?_
  exact W.zret E.1 E.2.1 hr hnw (fun t ht hW => ⟨⟨v, u, rfl, hp, by rw [ht]; exact G9.1, G9.2.1⟩, G9.2.2.F ht⟩) G9.2.2.2.2 hd E.2.2.2.2.2.2.2.1
theorem t_enterV {post : TS → Prop} (hy : plainName y.cls = true) (hn : (lg_sl av).length ≤ maxL) (hc : rm.cells = 0) (hs : rm.slots = 0)
    (body : ∀ (p : Program) (e : Env) (s : State) (m : MethodId) (args : Array Value) (below : List Frame) (meth : Method) (c : Code) (A : Nat → Prop) (R : Room) (Q : State → Prop) (H : Heap) (locs : List Loc) (ls : Array Slot), mE p s m meth c bytes args maxL y.cls D K A → rm.frames ≤ R.frames → rm.locals ≤ R.locals →
      (∀ {H : Heap} {locs : List Loc} {u : TS} {pc : Nat} {ls : Array Slot}, mG D A s H locs (wd K ad u) → post u → decode bytes pc = .ok (.return_, 1) → W p l e R s m args below meth c H locs 0 0 Q (F0 m pc ls [])) →
      mG D A s H locs (wd K ad z) → lv_has ls maxL (lv_args 0 av) → W p l e R s m args below meth c H locs 0 0 Q (F0 m 0 ls [])) :
    cV l y bytes maxL rm D K ad z av post := by
  refine m_enterV hy hn (fun p e s m args below meth c A ls E hr _ G hl => body p e s m args below meth c A rm _ _ _ ls E (Nat.le_refl _) (Nat.le_refl _) ?_ G hl)
  intro H locs u pc ls G9 hp hd
  refine W.widen (k := rm.cells) (n := rm.slots) (by omega) (by omega) ?_
  exact W.vret E.1 E.2.1 hr (fun t ht hW => ⟨⟨u, rfl, hp, by rw [ht]; exact G9.1, G9.2.1⟩, G9.2.2.F ht⟩) G9.2.2.2.2 hd E.2.2.2.2.2.2.2.1
theorem t_enterL {post : Int64 → TS → Prop} (hy : plainName y.cls = true) (hn : (lg_sl av).length ≤ maxL) (hc : rm.cells = 0) (hs : rm.slots = 0)
    (body : ∀ (p : Program) (e : Env) (s : State) (m : MethodId) (args : Array Value) (below : List Frame) (meth : Method) (c : Code) (A : Nat → Prop) (R : Room) (Q : State → Prop) (H : Heap) (locs : List Loc) (ls : Array Slot), mE p s m meth c bytes args maxL y.cls D K A → rm.frames ≤ R.frames → rm.locals ≤ R.locals →
      (∀ {H : Heap} {locs : List Loc} {u : TS} {v : Int64} {pc : Nat} {ls : Array Slot}, mG D A s H locs (wd K ad u) → post v u → decode bytes pc = .ok (.lreturn, 1) → W p l e R s m args below meth c H locs 0 0 Q (F0 m pc ls [.long v])) →
      mG D A s H locs (wd K ad z) → lv_has ls maxL (lv_args 0 av) → W p l e R s m args below meth c H locs 0 0 Q (F0 m 0 ls [])) :
    cL l y bytes maxL rm D K ad z av post := by
  refine fun _ => m_enter (Qc := fun A => va_Ql post (mB D A (fun u : TS => wd K ad u)) A) hy hn (fun p e s m args below meth c A ls E hr _ G hl => body p e s m args below meth c A rm _ _ _ ls E (Nat.le_refl _) (Nat.le_refl _) ?_ G hl)
  intro H locs u v pc ls G9 hp hd
  refine W.widen (k := rm.cells) (n := rm.slots) (by omega) (by omega) ?_
  exact W.lret E.1 E.2.1 hr (fun t ht hW => ⟨⟨v, u, rfl, hp, by rw [ht]; exact G9.1, G9.2.1⟩, G9.2.2.F ht⟩) G9.2.2.2.2 hd E.2.2.2.2.2.2.2.1
theorem t_enterR {C : String} {post : Nat → TS → Prop} (hy : plainName y.cls = true) (hn : (lg_sl av).length ≤ maxL) (hc : rm.cells = 0) (hs : rm.slots = 0)
    (body : ∀ (p : Program) (e : Env) (s : State) (m : MethodId) (args : Array Value) (below : List Frame) (meth : Method) (c : Code) (A : Nat → Prop) (R : Room) (Q : State → Prop) (H : Heap) (locs : List Loc) (ls : Array Slot), mE p s m meth c bytes args maxL y.cls D K A → rm.frames ≤ R.frames → rm.locals ≤ R.locals →
      (∀ {H : Heap} {locs : List Loc} {u : TS} {v : Nat} {pc : Nat} {ls : Array Slot}, mG D A s H locs (wd K ad u) → post v u → decode bytes pc = .ok (.areturn, 1) → W p l e R s m args below meth c H locs 0 0 Q (F0 m pc ls [.ref (ad v)])) →
      mG D A s H locs (wd K ad z) → lv_has ls maxL (lv_args 0 av) → W p l e R s m args below meth c H locs 0 0 Q (F0 m 0 ls [])) :
    cR l y bytes maxL (.object C) rm D K ad z av post := by
  refine fun _ => m_enter (Qc := fun A => va_Qr (fun u : TS × Nat => post u.2 u.1) (fun u a t => a = ad u.2 ∧ mB D A (fun u : TS => wd K ad u) u.1 t) A) hy hn (fun p e s m args below meth c A ls E hr _ G hl => body p e s m args below meth c A rm _ _ _ ls E (Nat.le_refl _) (Nat.le_refl _) ?_ G hl)
  intro H locs u v pc ls G9 hp hd
  refine W.widen (k := rm.cells) (n := rm.slots) (by omega) (by omega) ?_
  exact W.aret E.1 E.2.1 hr (Or.inl ⟨_, rfl⟩) (Or.inr ⟨_, rfl⟩) (fun t ht hW => ⟨⟨(u, v), ad v, rfl, hp, rfl, by rw [ht]; exact G9.1, G9.2.1⟩, G9.2.2.F ht⟩) G9.2.2.2.2 hd E.2.2.2.2.2.2.2.1
end TE
section TR
variable {p : Program} {l : Launch} {e : Env} {R : Room} {s : State} {m : MethodId} {args : Array Value} {below : List Frame} {meth : Method} {c : Code} {H : Heap} {locs : List Loc} {Q : State → Prop}
variable {cc bytes : ByteArray} {nL maxL pc index : Nat} {ls : Array Slot} {rest : List Value} {D : va_G} {K : Nat → ClassId} {A : Nat → Prop} {own : String} {ad : Nat → Nat} {z : TS} {j : Nat}
theorem t_get (E : mE p s m meth c cc args nL own D K A) (G : mG D A s H locs (wd K ad z)) (ci k : Nat) (hj : ro j = ci) {C : String} {T : u_T} {N : Nat} (hc : classes[ci]? = some (C, T, N)) (h12 : ci < 12) (hk : k < N) (hkn : k < nfl ci) (hl : Cond.fieldLink own index (T k).1 (T k).2.1 (T k).2.2.1 ∈ cw) {v : Value} (hv : fvl ad z ci j k = v) (hdg : decode cc pc = .ok (.getfield index, 3))
    (kk : W p l e R s m args below meth c H locs 0 0 Q (F0 m (pc + 3) ls (v :: rest))) : W p l e R s m args below meth c H locs 0 0 Q (F0 m pc ls (.ref (ad j) :: rest)) :=
  m_get E G j (by rw [wd_at (ro_lt hj (by omega)), cell_obj hj h12]) k hc hk hl (by rw [flds_at hkn, hv]) hdg kk
theorem t_puti (E : mE p s m meth c cc args nL own D K A) (G : mG D A s H locs (wd K ad z)) (ci k : Nat) (hj : ro j = ci) {C : String} {T : u_T} {N : Nat} (hc : classes[ci]? = some (C, T, N)) (h12 : ci < 12) (hk : k < N) (hkn : k < nfl ci) (hs : fsp ci k = 0) (hty : cls_ty ci k = .int) (hl : Cond.fieldLink own index (T k).1 (T k).2.1 (T k).2.2.1 ∈ cw) (hfin : (T k).2.2.2 = false) {v : Int32} (hdg : decode cc pc = .ok (.putfield index, 3))
    (kk : ∀ (H1 : Heap) (locs1 : List Loc), mG D A s H1 locs1 (wd K ad (setI z j k v)) → W p l e R s m args below meth c H1 locs1 0 0 Q (F0 m (pc + 3) ls rest)) : W p l e R s m args below meth c H locs 0 0 Q (F0 m pc ls (.int v :: .ref (ad j) :: rest)) :=
  m_put E G j (by rw [wd_at (ro_lt hj (by omega)), cell_obj hj h12]) k hc hk hl hfin (by rw [hty]; rfl) (by rw [hty]; rfl) (by rw [flds_len]; exact hkn) hdg (fun H1 l1 G1 => kk H1 l1 (by rw [wd_setI hj h12 hkn hs] at G1; exact G1))
theorem t_putp (E : mE p s m meth c cc args nL own D K A) (G : mG D A s H locs (wd K ad z)) (ci k : Nat) (hj : ro j = ci) {C : String} {T : u_T} {N : Nat} (hc : classes[ci]? = some (C, T, N)) (h12 : ci < 12) (hk : k < N) (hkn : k < nfl ci) (hs : fsp ci k = 2) {c2 : String} (hty : cls_ty ci k = .object c2) (hl : Cond.fieldLink own index (T k).1 (T k).2.1 (T k).2.2.1 ∈ cw) (hfin : (T k).2.2.2 = false) {v : Nat} (hdg : decode cc pc = .ok (.putfield index, 3))
    (kk : ∀ (H1 : Heap) (locs1 : List Loc), mG D A s H1 locs1 (wd K ad (setP z j k v)) → W p l e R s m args below meth c H1 locs1 0 0 Q (F0 m (pc + 3) ls rest)) : W p l e R s m args below meth c H locs 0 0 Q (F0 m pc ls (.ref (ad v) :: .ref (ad j) :: rest)) :=
  m_put E G j (by rw [wd_at (ro_lt hj (by omega)), cell_obj hj h12]) k hc hk hl hfin (by rw [hty]; rfl) (by rw [hty]; rfl) (by rw [flds_len]; exact hkn) hdg (fun H1 l1 G1 => kk H1 l1 (by rw [wd_setP hj h12 hkn hs] at G1; exact G1))
theorem wd_row {r : Nat} (hj : ro j = r) (hr : 20 ≤ r) (hr9 : r < 99) {kk n : Nat} (hK : akK r = kk) (hn : akN r = n) (h2 : kk ≠ 2) (h4 : kk < 4) : (wd K ad z)[j]? = some (ad j, .inl (K kk, n, .inl (tA z j))) := by
  rw [wd_at (ro_lt hj hr9), cell_row hj hr, row_int hj (by rw [hK]; exact h2) (by rw [hK]; exact h4), hK, hn]
theorem wd_rowL {r : Nat} (hj : ro j = r) (hr : 20 ≤ r) (hr9 : r < 99) {n : Nat} (hK : akK r = 2) (hn : akN r = n) : (wd K ad z)[j]? = some (ad j, .inl (K 2, n, .inr (.inl (tL z j)))) := by
  rw [wd_at (ro_lt hj hr9), cell_row hj hr, row_long hj hK, hK, hn]
theorem t_iald (E : mE p s m meth c cc args nL own D K A) (G : mG D A s H locs (wd K ad z)) (r : Nat) (hj : ro j = r) (hr : 20 ≤ r) (hr9 : r < 99) (hK : akK r = 0) {n : Nat} (hn : akN r = n) {i : Int32} (hin : vp_in i n) (hdg : decode cc pc = .ok (.iaload, 1))
    (kk : W p l e R s m args below meth c H locs 0 0 Q (F0 m (pc + 1) ls (.int (tA z j i.toNatClampNeg) :: rest))) : W p l e R s m args below meth c H locs 0 0 Q (F0 m pc ls (.int i :: .ref (ad j) :: rest)) := m_iald E G j (wd_row hj hr hr9 hK hn (by decide) (by decide)) hin hdg kk
theorem t_bald (E : mE p s m meth c cc args nL own D K A) (G : mG D A s H locs (wd K ad z)) (r : Nat) (hj : ro j = r) (hr : 20 ≤ r) (hr9 : r < 99) (hK : akK r = 1) {n : Nat} (hn : akN r = n) {i : Int32} (hin : vp_in i n) (hdg : decode cc pc = .ok (.baload, 1))
    (kk : W p l e R s m args below meth c H locs 0 0 Q (F0 m (pc + 1) ls (.int (tA z j i.toNatClampNeg) :: rest))) : W p l e R s m args below meth c H locs 0 0 Q (F0 m pc ls (.int i :: .ref (ad j) :: rest)) := m_bald E G j (wd_row hj hr hr9 hK hn (by decide) (by decide)) hin hdg kk
theorem t_zald (E : mE p s m meth c cc args nL own D K A) (G : mG D A s H locs (wd K ad z)) (r : Nat) (hj : ro j = r) (hr : 20 ≤ r) (hr9 : r < 99) (hK : akK r = 3) {n : Nat} (hn : akN r = n) {i : Int32} (hin : vp_in i n) (hdg : decode cc pc = .ok (.baload, 1))
    (kk : W p l e R s m args below meth c H locs 0 0 Q (F0 m (pc + 1) ls (.int (tA z j i.toNatClampNeg) :: rest))) : W p l e R s m args below meth c H locs 0 0 Q (F0 m pc ls (.int i :: .ref (ad j) :: rest)) := m_zald E G j (wd_row hj hr hr9 hK hn (by decide) (by decide)) hin hdg kk
theorem t_lald (E : mE p s m meth c cc args nL own D K A) (G : mG D A s H locs (wd K ad z)) (r : Nat) (hj : ro j = r) (hr : 20 ≤ r) (hr9 : r < 99) (hK : akK r = 2) {n : Nat} (hn : akN r = n) {i : Int32} (hin : vp_in i n) (hdg : decode cc pc = .ok (.laload, 1))
    (kk : W p l e R s m args below meth c H locs 0 0 Q (F0 m (pc + 1) ls (.long (tL z j i.toNatClampNeg) :: rest))) : W p l e R s m args below meth c H locs 0 0 Q (F0 m pc ls (.int i :: .ref (ad j) :: rest)) := m_lald E G j (wd_rowL hj hr hr9 hK hn) hin hdg kk
theorem t_iast (E : mE p s m meth c cc args nL own D K A) (G : mG D A s H locs (wd K ad z)) (r : Nat) (hj : ro j = r) (hr : 20 ≤ r) (hr9 : r < 99) (hK : akK r = 0) {n : Nat} (hn : akN r = n) {i x : Int32} (hin : vp_in i n) (hdg : decode cc pc = .ok (.iastore, 1))
    (kk : ∀ (H1 : Heap) (locs1 : List Loc), mG D A s H1 locs1 (wd K ad (setR z j (upd (tA z j) i.toNatClampNeg x))) → W p l e R s m args below meth c H1 locs1 0 0 Q (F0 m (pc + 1) ls rest)) : W p l e R s m args below meth c H locs 0 0 Q (F0 m pc ls (.int x :: .int i :: .ref (ad j) :: rest)) :=
  m_iast E G j (wd_row hj hr hr9 hK hn (by decide) (by decide)) hin hdg (fun H1 l1 G1 => kk H1 l1 (by
    have e := wd_setR (K := K) (ad := ad) (z := z) (f := upd (tA z j) i.toNatClampNeg x) hj hr hr9 (by rw [hK]; decide) (by rw [hK]; decide)
    rw [hK, hn] at e
    rw [e] at G1; exact G1))
theorem t_bast (E : mE p s m meth c cc args nL own D K A) (G : mG D A s H locs (wd K ad z)) (r : Nat) (hj : ro j = r) (hr : 20 ≤ r) (hr9 : r < 99) (hK : akK r = 1) {n : Nat} (hn : akN r = n) {i x : Int32} (hin : vp_in i n) (hdg : decode cc pc = .ok (.bastore, 1))
    (kk : ∀ (H1 : Heap) (locs1 : List Loc), mG D A s H1 locs1 (wd K ad (setR z j (upd (tA z j) i.toNatClampNeg (vp_nar .byte x)))) → W p l e R s m args below meth c H1 locs1 0 0 Q (F0 m (pc + 1) ls rest)) : W p l e R s m args below meth c H locs 0 0 Q (F0 m pc ls (.int x :: .int i :: .ref (ad j) :: rest)) :=
  m_bast E G j (wd_row hj hr hr9 hK hn (by decide) (by decide)) hin hdg (fun H1 l1 G1 => kk H1 l1 (by
    have e := wd_setR (K := K) (ad := ad) (z := z) (f := upd (tA z j) i.toNatClampNeg (vp_nar .byte x)) hj hr hr9 (by rw [hK]; decide) (by rw [hK]; decide)
    rw [hK, hn] at e
    rw [e] at G1; exact G1))
theorem t_zast (E : mE p s m meth c cc args nL own D K A) (G : mG D A s H locs (wd K ad z)) (r : Nat) (hj : ro j = r) (hr : 20 ≤ r) (hr9 : r < 99) (hK : akK r = 3) {n : Nat} (hn : akN r = n) {i x : Int32} (hin : vp_in i n) (hdg : decode cc pc = .ok (.bastore, 1))
    (kk : ∀ (H1 : Heap) (locs1 : List Loc), mG D A s H1 locs1 (wd K ad (setR z j (upd (tA z j) i.toNatClampNeg (vp_nar .boolean x)))) → W p l e R s m args below meth c H1 locs1 0 0 Q (F0 m (pc + 1) ls rest)) : W p l e R s m args below meth c H locs 0 0 Q (F0 m pc ls (.int x :: .int i :: .ref (ad j) :: rest)) :=
  m_zast E G j (wd_row hj hr hr9 hK hn (by decide) (by decide)) hin hdg (fun H1 l1 G1 => kk H1 l1 (by
    have e := wd_setR (K := K) (ad := ad) (z := z) (f := upd (tA z j) i.toNatClampNeg (vp_nar .boolean x)) hj hr hr9 (by rw [hK]; decide) (by rw [hK]; decide)
    rw [hK, hn] at e
    rw [e] at G1; exact G1))
theorem t_last (E : mE p s m meth c cc args nL own D K A) (G : mG D A s H locs (wd K ad z)) (r : Nat) (hj : ro j = r) (hr : 20 ≤ r) (hr9 : r < 99) (hK : akK r = 2) {n : Nat} (hn : akN r = n) {i : Int32} {x : Int64} (hin : vp_in i n) (hdg : decode cc pc = .ok (.lastore, 1))
    (kk : ∀ (H1 : Heap) (locs1 : List Loc), mG D A s H1 locs1 (wd K ad (setL z j (vp_updL (tL z j) i.toNatClampNeg x))) → W p l e R s m args below meth c H1 locs1 0 0 Q (F0 m (pc + 1) ls rest)) : W p l e R s m args below meth c H locs 0 0 Q (F0 m pc ls (.long x :: .int i :: .ref (ad j) :: rest)) :=
  va_last E.1 E.2.1 E.2.2.2.2.2.1 G.1 G.2.1 G.2.2 j 2 (wd_rowL hj hr hr9 hK hn) rfl hin hdg (fun H1 l1 h1 h2 h3 => kk H1 l1 (by
    have e := wd_setL (K := K) (ad := ad) (z := z) (f := vp_updL (tL z j) i.toNatClampNeg x) hj hr hr9 hK
    rw [hK, hn] at e
    have G1 : mG D A s H1 l1 _ := ⟨h1, h2, h3⟩
    rw [e] at G1; exact G1))
theorem t_aald (E : mE p s m meth c cc args nL own D K A) (G : mG D A s H locs (wd K ad z)) (r : Nat) (hj : ro j = r) (hr : 20 ≤ r) (hr9 : r < 99) {t0 : Nat} (hK : akK r = t0) (h4 : 4 ≤ t0) {n : Nat} (hn : akN r = n) {C : String} (ht : (tyK K)[t0]? = some (K t0, .object C)) {i : Int32} (hin : vp_in i n) (hdg : decode cc pc = .ok (.aaload, 1))
    (kk : W p l e R s m args below meth c H locs 0 0 Q (F0 m (pc + 1) ls (.ref (ad (j + 1 + qst r * i.toNatClampNeg)) :: rest))) : W p l e R s m args below meth c H locs 0 0 Q (F0 m pc ls (.int i :: .ref (ad j) :: rest)) :=
  m_aald E G j t0 (cA := K t0) (f := fun i => some (ad (j + 1 + qst r * i))) (v := .ref (ad (j + 1 + qst r * i.toNatClampNeg))) (by rw [wd_at (ro_lt hj hr9), cell_row hj hr, row_ref hj (by rw [hK]; exact h4), hK, hn]) ht hin rfl hdg kk
theorem t_alen (E : mE p s m meth c cc args nL own D K A) (G : mG D A s H locs (wd K ad z)) (r t0 : Nat) (hj : ro j = r) (hr : 20 ≤ r) (hr9 : r < 99) (hK : akK r = t0) {ty : FieldType} (ht : (tyK K)[t0]? = some (K t0, ty)) {v : Int32} (hv : Int32.ofNat (akN r) = v) (hdg : decode cc pc = .ok (.arraylength, 1))
    (kk : W p l e R s m args below meth c H locs 0 0 Q (F0 m (pc + 1) ls (.int v :: rest))) : W p l e R s m args below meth c H locs 0 0 Q (F0 m pc ls (.ref (ad j) :: rest)) :=
  m_alen E G j t0 (cA := K t0) (x := (akN r, rowE ad z j)) (by rw [wd_at (ro_lt hj hr9), cell_row hj hr, hK]) ht hv hdg kk
theorem t_copyi (E : mE p s m meth c cc args nL own D K A) (G : mG D A s H locs (wd K ad z)) {lvs : List (Nat × Value)} (hl : lv_has ls nL lvs) (hlk : Cond.methodLink own index arraycopyName ∈ cw) {j0 : Nat} (r0 r : Nat) (hj0 : ro j0 = r0) (hj : ro j = r) (hr0 : 20 ≤ r0) (hr : 20 ≤ r) (hr09 : r0 < 99) (hr9 : r < 99) (hK0 : akK r0 = 0) (hK : akK r = 0) {n0 n1 : Nat} (hn0 : akN r0 = n0) (hn1 : akN r = n1) {sp dp n : Int32} (h1 : ¬ sp < 0) (h2 : ¬ dp < 0) (h3 : ¬ n < 0) (h4 : sp.toNatClampNeg + n.toNatClampNeg ≤ n0) (h5 : dp.toNatClampNeg + n.toNatClampNeg ≤ n1) (hframes : 1 ≤ R.frames) (hw : (rest.map fun v => v.category).sum ≤ 8) (hlocals : 26 ≤ R.locals) (hdg : decode cc pc = .ok (.invokestatic index, 3))
    (kk : ∀ (H1 : Heap) (locs1 : List Loc), mG D A s H1 locs1 (wd K ad (setR z j (va_cpy (tA z j0) (tA z j) sp.toNatClampNeg dp.toNatClampNeg n.toNatClampNeg))) → W p l e R s m args below meth c H1 locs1 0 0 Q (F0 m (pc + 3) ls rest)) : W p l e R s m args below meth c H locs 0 0 Q (F0 m pc ls (.int n :: .int dp :: .ref (ad j) :: .int sp :: .ref (ad j0) :: rest)) :=
  m_copyi E G hl hlk j0 j (wd_row hj0 hr0 hr09 hK0 hn0 (by decide) (by decide)) (wd_row hj hr hr9 hK hn1 (by decide) (by decide)) h1 h2 h3 h4 h5 hframes hw hlocals hdg (fun H1 l1 G1 => kk H1 l1 (by
    have e := wd_setR (K := K) (ad := ad) (z := z) (f := va_cpy (tA z j0) (tA z j) sp.toNatClampNeg dp.toNatClampNeg n.toNatClampNeg) hj hr hr9 (by rw [hK]; decide) (by rw [hK]; decide)
    rw [hK, hn1] at e
    rw [e] at G1; exact G1))
/-! calls: the whole world goes and comes back -/
theorem t_vi {y : MethodName} {ret : FieldType} {rm : Room} {As : List Value} {post : Int32 → TS → Prop} {st0 : List Value} {lvs : List (Nat × Value)} (E : mE p s m meth c cc args nL own D K A) (G : mG D A s H locs (wd K ad z)) (hl : lv_has ls nL lvs) (hM : cI l y bytes maxL ret rm D K ad z (.ref (ad j) :: As) post)
    (ci : Nat) (hj : ro j = ci) (h12 : ci < 12) {r : vw_C} (hc : classes[ci]? = some r) (hy : r.1 = y.cls) (n : Nat) (hn : As.length = n) (hcode : Cond.code y bytes maxL (some ret) ∈ cw) (hini : Cond.initialized y.cls ∈ cw) (hlk : Cond.methodLink own index y ∈ cw) (hin : Cond.instanceMethod y ∈ cw) (hsel : Cond.selects y.cls y y ∈ cw) (hd : y.cls ≠ "java/lang/invoke/MethodHandle" ∧ y.cls ≠ "java/lang/invoke/VarHandle" ∧ (parseMethodDescriptor y.desc).map (fun d => d.parameters.length) = some n) (hRm : rm.frames + 1 ≤ R.frames ∧ 8 + (maxL + 11) + rm.locals ≤ R.locals) (hz1 : rm.cells = 0) (hz2 : rm.slots = 0)
    (hst : st0 = As.reverse ++ .ref (ad j) :: rest) (hw : (rest.map fun v => v.category).sum ≤ 8) (hdg : decode cc pc = .ok (.invokevirtual index, 3))
    (kk : ∀ (r1 : Int32) (u : TS) (H1 : Heap) (locs1 : List Loc), post r1 u → mG D A s H1 locs1 (wd K ad u) → W p l e R s m args below meth c H1 locs1 0 0 Q (F0 m (pc + 3) ls (.int r1 :: rest))) : W p l e R s m args below meth c H locs 0 0 Q (F0 m pc ls st0) := by
  refine m_vi (wr := []) E G hl hM (List.range 409) [] rng_wd rfl rng_nd rfl (by simp) j (ci := ci) (by rw [wd_at (ro_lt hj (by omega)), cell_obj hj h12]) hc hy n hn hcode hini hlk hin hsel hd hRm hst hw ⟨by rw [hz1]; exact Nat.zero_le _, by rw [hz2]; exact Nat.zero_le _⟩ hdg (fun r1 u H1 l1 hp G1 => ?_)
  rw [hz1, hz2]
  exact kk r1 u H1 l1 hp G1
theorem t_vv {y : MethodName} {rm : Room} {As : List Value} {post : TS → Prop} {st0 : List Value} {lvs : List (Nat × Value)} (E : mE p s m meth c cc args nL own D K A) (G : mG D A s H locs (wd K ad z)) (hl : lv_has ls nL lvs) (hM : cV l y bytes maxL rm D K ad z (.ref (ad j) :: As) post)
    (ci : Nat) (hj : ro j = ci) (h12 : ci < 12) {r : vw_C} (hc : classes[ci]? = some r) (hy : r.1 = y.cls) (n : Nat) (hn : As.length = n) (hcode : Cond.code y bytes maxL none ∈ cw) (hini : Cond.initialized y.cls ∈ cw) (hlk : Cond.methodLink own index y ∈ cw) (hin : Cond.instanceMethod y ∈ cw) (hsel : Cond.selects y.cls y y ∈ cw) (hd : y.cls ≠ "java/lang/invoke/MethodHandle" ∧ y.cls ≠ "java/lang/invoke/VarHandle" ∧ (parseMethodDescriptor y.desc).map (fun d => d.parameters.length) = some n) (hRm : rm.frames + 1 ≤ R.frames ∧ 8 + (maxL + 11) + rm.locals ≤ R.locals) (hz1 : rm.cells = 0) (hz2 : rm.slots = 0)
    (hst : st0 = As.reverse ++ .ref (ad j) :: rest) (hw : (rest.map fun v => v.category).sum ≤ 8) (hdg : decode cc pc = .ok (.invokevirtual index, 3))
    (kk : ∀ (u : TS) (H1 : Heap) (locs1 : List Loc), post u → mG D A s H1 locs1 (wd K ad u) → W p l e R s m args below meth c H1 locs1 0 0 Q (F0 m (pc + 3) ls rest)) : W p l e R s m args below meth c H locs 0 0 Q (F0 m pc ls st0) := by
  refine m_vv (wr := []) E G hl hM (List.range 409) [] rng_wd rfl rng_nd rfl (by simp) j (ci := ci) (by rw [wd_at (ro_lt hj (by omega)), cell_obj hj h12]) hc hy n hn hcode hini hlk hin hsel hd hRm hst hw ⟨by rw [hz1]; exact Nat.zero_le _, by rw [hz2]; exact Nat.zero_le _⟩ hdg (fun u H1 l1 hp G1 => ?_)
  rw [hz1, hz2]
  exact kk u H1 l1 hp G1
theorem t_si {y : MethodName} {ret : FieldType} {rm : Room} {As : List Value} {post : Int32 → TS → Prop} {st0 : List Value} {lvs : List (Nat × Value)} (E : mE p s m meth c cc args nL own D K A) (G : mG D A s H locs (wd K ad z)) (hl : lv_has ls nL lvs) (hM : cI l y bytes maxL ret rm D K ad z As post)
    (n : Nat) (hn : As.length = n) (hcode : Cond.code y bytes maxL (some ret) ∈ cw) (hini : Cond.initialized y.cls ∈ cw) (hlk : Cond.methodLink own index y ∈ cw) (hin : Cond.static y ∈ cw) (hd : y.cls ≠ "java/lang/invoke/MethodHandle" ∧ y.cls ≠ "java/lang/invoke/VarHandle" ∧ (parseMethodDescriptor y.desc).map (fun d => d.parameters.length) = some n) (hRm : rm.frames + 1 ≤ R.frames ∧ 8 + (maxL + 11) + rm.locals ≤ R.locals) (hz1 : rm.cells = 0) (hz2 : rm.slots = 0)
    (hst : st0 = As.reverse ++ rest) (hw : (rest.map fun v => v.category).sum ≤ 8) (hdg : decode cc pc = .ok (.invokestatic index, 3))
    (kk : ∀ (r1 : Int32) (u : TS) (H1 : Heap) (locs1 : List Loc), post r1 u → mG D A s H1 locs1 (wd K ad u) → W p l e R s m args below meth c H1 locs1 0 0 Q (F0 m (pc + 3) ls (.int r1 :: rest))) : W p l e R s m args below meth c H locs 0 0 Q (F0 m pc ls st0) := by
  refine m_si (wr := []) E G hl hM (List.range 409) [] rng_wd rfl rng_nd rfl (by simp) n hn hcode hini hlk hin hd hRm hst hw ⟨by rw [hz1]; exact Nat.zero_le _, by rw [hz2]; exact Nat.zero_le _⟩ hdg (fun r1 u H1 l1 hp G1 => ?_)
  rw [hz1, hz2]
  exact kk r1 u H1 l1 hp G1
theorem t_vl {y : MethodName} {rm : Room} {As : List Value} {post : Int64 → TS → Prop} {st0 : List Value} {lvs : List (Nat × Value)} (E : mE p s m meth c cc args nL own D K A) (G : mG D A s H locs (wd K ad z)) (hl : lv_has ls nL lvs) (hM : cL l y bytes maxL rm D K ad z (.ref (ad j) :: As) post)
    (ci : Nat) (hj : ro j = ci) (h12 : ci < 12) {r : vw_C} (hc : classes[ci]? = some r) (hy : r.1 = y.cls) (n : Nat) (hn : As.length = n) (hcode : Cond.code y bytes maxL (some .long) ∈ cw) (hini : Cond.initialized y.cls ∈ cw) (hlk : Cond.methodLink own index y ∈ cw) (hin : Cond.instanceMethod y ∈ cw) (hsel : Cond.selects y.cls y y ∈ cw) (hd : y.cls ≠ "java/lang/invoke/MethodHandle" ∧ y.cls ≠ "java/lang/invoke/VarHandle" ∧ (parseMethodDescriptor y.desc).map (fun d => d.parameters.length) = some n) (hRm : rm.frames + 1 ≤ R.frames ∧ 8 + (maxL + 11) + rm.locals ≤ R.locals) (hz1 : rm.cells = 0) (hz2 : rm.slots = 0)
    (hst : st0 = As.reverse ++ .ref (ad j) :: rest) (hw : (rest.map fun v => v.category).sum ≤ 8) (hdg : decode cc pc = .ok (.invokevirtual index, 3))
    (kk : ∀ (r1 : Int64) (u : TS) (H1 : Heap) (locs1 : List Loc), post r1 u → mG D A s H1 locs1 (wd K ad u) → W p l e R s m args below meth c H1 locs1 0 0 Q (F0 m (pc + 3) ls (.long r1 :: rest))) : W p l e R s m args below meth c H locs 0 0 Q (F0 m pc ls st0) := by
  have hF := m_free E G (List.range 409) rng_wd
  have hrec := va_recv E.2.2.2.2.2.1 G.1 hc (q0 := j) (by rw [wd_at (ro_lt hj (by omega)), cell_obj hj h12])
  rw [hy] at hrec
  refine va_calll (va_runV (As := As) (rest := rest) (n := n) (nL := nL) (C := y.cls) (Ts := cw) ⟨E.1, E.2.1, E.2.2.1, E.2.2.2.1, E.2.2.2.2.1⟩ (hM H.size) ⟨m_callB E n hcode hini hlk hd hRm, E.2.2.2.2.1 _ hin, E.2.2.2.2.1 _ hsel⟩ ⟨mPre_blind, hrec, m_pre E G (List.range 409) rng_nd rng_wd⟩ rfl hn hl.1 hst (lv_room hw) hdg ⟨by rw [hz1]; exact Nat.zero_le _, by rw [hz2]; exact Nat.zero_le _⟩) G.2.2 (fun q _ h => hF q h) hF (fun r1 u t H1 locs1 ht hvm hp hB _ hk1 hS1 => ?_)
  obtain ⟨hP1, hD1⟩ := hB
  rw [ht] at hP1
  obtain ⟨hP2, hD2⟩ := va_join (wr := []) (w1 := wd K ad u) G.1 G.2.1 (List.range 409) [] rng_wd rfl rfl (by simp) hk1 hF hP1 hD1
  rw [hz1, hz2]
  exact kk r1 u H1 locs1 hp ⟨hP2, hD2, hS1⟩
theorem t_sl {y : MethodName} {rm : Room} {As : List Value} {post : Int64 → TS → Prop} {st0 : List Value} {lvs : List (Nat × Value)} (E : mE p s m meth c cc args nL own D K A) (G : mG D A s H locs (wd K ad z)) (hl : lv_has ls nL lvs) (hM : cL l y bytes maxL rm D K ad z As post)
    (n : Nat) (hn : As.length = n) (hcode : Cond.code y bytes maxL (some .long) ∈ cw) (hini : Cond.initialized y.cls ∈ cw) (hlk : Cond.methodLink own index y ∈ cw) (hin : Cond.static y ∈ cw) (hd : y.cls ≠ "java/lang/invoke/MethodHandle" ∧ y.cls ≠ "java/lang/invoke/VarHandle" ∧ (parseMethodDescriptor y.desc).map (fun d => d.parameters.length) = some n) (hRm : rm.frames + 1 ≤ R.frames ∧ 8 + (maxL + 11) + rm.locals ≤ R.locals) (hz1 : rm.cells = 0) (hz2 : rm.slots = 0)
    (hst : st0 = As.reverse ++ rest) (hw : (rest.map fun v => v.category).sum ≤ 8) (hdg : decode cc pc = .ok (.invokestatic index, 3))
    (kk : ∀ (r1 : Int64) (u : TS) (H1 : Heap) (locs1 : List Loc), post r1 u → mG D A s H1 locs1 (wd K ad u) → W p l e R s m args below meth c H1 locs1 0 0 Q (F0 m (pc + 3) ls (.long r1 :: rest))) : W p l e R s m args below meth c H locs 0 0 Q (F0 m pc ls st0) := by
  have hF := m_free E G (List.range 409) rng_wd
  refine va_calll (va_runS (As := As) (rest := rest) (n := n) (nL := nL) (Ts := cw) ⟨E.1, E.2.1, E.2.2.1, E.2.2.2.1, E.2.2.2.2.1⟩ (hM H.size) ⟨m_callB E n hcode hini hlk hd hRm, E.2.2.2.2.1 _ hin⟩ ⟨mPre_blind, m_pre E G (List.range 409) rng_nd rng_wd⟩ rfl hn hl.1 hst (lv_room hw) hdg ⟨by rw [hz1]; exact Nat.zero_le _, by rw [hz2]; exact Nat.zero_le _⟩) G.2.2 (fun q _ h => hF q h) hF (fun r1 u t H1 locs1 ht hvm hp hB _ hk1 hS1 => ?_)
  obtain ⟨hP1, hD1⟩ := hB
  rw [ht] at hP1
  obtain ⟨hP2, hD2⟩ := va_join (wr := []) (w1 := wd K ad u) G.1 G.2.1 (List.range 409) [] rng_wd rfl rfl (by simp) hk1 hF hP1 hD1
  rw [hz1, hz2]
  exact kk r1 u H1 locs1 hp ⟨hP2, hD2, hS1⟩
theorem t_vr {y : MethodName} {ret : FieldType} {rm : Room} {As : List Value} {post : Nat → TS → Prop} {st0 : List Value} {lvs : List (Nat × Value)} (E : mE p s m meth c cc args nL own D K A) (G : mG D A s H locs (wd K ad z)) (hl : lv_has ls nL lvs) (hM : cR l y bytes maxL ret rm D K ad z (.ref (ad j) :: As) post)
    (ci : Nat) (hj : ro j = ci) (h12 : ci < 12) {r : vw_C} (hc : classes[ci]? = some r) (hy : r.1 = y.cls) (n : Nat) (hn : As.length = n) (hcode : Cond.code y bytes maxL (some ret) ∈ cw) (hini : Cond.initialized y.cls ∈ cw) (hlk : Cond.methodLink own index y ∈ cw) (hin : Cond.instanceMethod y ∈ cw) (hsel : Cond.selects y.cls y y ∈ cw) (hd : y.cls ≠ "java/lang/invoke/MethodHandle" ∧ y.cls ≠ "java/lang/invoke/VarHandle" ∧ (parseMethodDescriptor y.desc).map (fun d => d.parameters.length) = some n) (hRm : rm.frames + 1 ≤ R.frames ∧ 8 + (maxL + 11) + rm.locals ≤ R.locals) (hz1 : rm.cells = 0) (hz2 : rm.slots = 0)
    (hst : st0 = As.reverse ++ .ref (ad j) :: rest) (hw : (rest.map fun v => v.category).sum ≤ 8) (hdg : decode cc pc = .ok (.invokevirtual index, 3))
    (kk : ∀ (q : Nat) (u : TS) (H1 : Heap) (locs1 : List Loc), post q u → mG D A s H1 locs1 (wd K ad u) → W p l e R s m args below meth c H1 locs1 0 0 Q (F0 m (pc + 3) ls (.ref (ad q) :: rest))) : W p l e R s m args below meth c H locs 0 0 Q (F0 m pc ls st0) := by
  have hF := m_free E G (List.range 409) rng_wd
  have hrec := va_recv E.2.2.2.2.2.1 G.1 hc (q0 := j) (by rw [wd_at (ro_lt hj (by omega)), cell_obj hj h12])
  rw [hy] at hrec
  refine va_callr (va_runV (As := As) (rest := rest) (n := n) (nL := nL) (C := y.cls) (Ts := cw) ⟨E.1, E.2.1, E.2.2.1, E.2.2.2.1, E.2.2.2.2.1⟩ (hM H.size) ⟨m_callB E n hcode hini hlk hd hRm, E.2.2.2.2.1 _ hin, E.2.2.2.2.1 _ hsel⟩ ⟨mPre_blind, hrec, m_pre E G (List.range 409) rng_nd rng_wd⟩ rfl hn hl.1 hst (lv_room hw) hdg ⟨by rw [hz1]; exact Nat.zero_le _, by rw [hz2]; exact Nat.zero_le _⟩) G.2.2 (fun q _ h => hF q h) hF (fun u ra t H1 locs1 ht hvm hp hB _ hk1 hS1 => ?_)
  obtain ⟨hra, hP1, hD1⟩ := hB
  rw [ht] at hP1
  obtain ⟨hP2, hD2⟩ := va_join (wr := []) (w1 := wd K ad u.1) G.1 G.2.1 (List.range 409) [] rng_wd rfl rfl (by simp) hk1 hF hP1 hD1
  rw [hz1, hz2, hra]
  exact kk u.2 u.1 H1 locs1 hp ⟨hP2, hD2, hS1⟩
end TR
