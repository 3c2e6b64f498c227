abbrev tyK (K : Nat → ClassId) : List (ClassId × FieldType) := [(K 0, .int), (K 1, .byte), (K 2, .long), (K 3, .boolean), (K 4, .object "LureTown$Rule"), (K 5, .object "LureTown$Moment"), (K 6, .object "LureTown$State")]
/-! the two lists of the tape: String constants, by their places; what String's methods read besides -/
def sLen : List Nat := [96, 11]
def sByt : List (List Int32) := [[119, 97, 108, 107, 101, 114, 32, 99, 111, 114, 110, 101, 114, 32, 102, 114, 111, 109, 32, 104, 111, 109, 101, 32, 104, 101, 97, 114, 116, 32, 119, 97, 114, 121, 32, 99, 104, 97, 114, 103, 101, 32, 108, 117, 114, 101, 115, 32, 109, 105, 110, 101, 32, 111, 116, 104, 101, 114, 115, 32, 115, 116, 101, 112, 32, 103, 111, 32, 105, 102, 32, 111, 114, 32, 97, 110, 100, 32, 110, 111, 116, 32, 116, 111, 119, 110, 32, 119, 97, 121, 32, 108, 117, 114, 101, 32], [59, 91, 93, 43, 45, 42, 47, 37, 60, 61, 62]]
/-- places by K (a class's number is a Nat): the Strings' at 100, their bytes' at 110, the formatter's at 120 -/
def kS (K : Nat → ClassId) (i : Nat) : Nat := K (100 + i)
def kV (K : Nat → ClassId) (i : Nat) : Nat := K (110 + i)
def kF (K : Nat → ClassId) : Value := if K 120 = 0 then .null else .ref (K 121)
def sP (K : Nat → ClassId) (A : Nat → Prop) (U : State) : Prop := vk_S 2 sLen sByt (kS K) (kV K) A U U.heap ∧ vk_R "LureTown$Tape" 50 "walker corner from home heart wary charge lures mine others step go if or and not town way lure " (kS K 0) U ∧ vk_R "LureTown$Tape" 65 ";[]+-*/%<=>" (kS K 1) U ∧ va_Z "java/lang/String" "COMPACT_STRINGS" "Z" (.int 1) A U U.heap ∧ va_Z "jdk/internal/util/Preconditions" "SIOOBE_FORMATTER" "Ljava/util/function/BiFunction;" (kF K) A U U.heap
theorem sP.same {K : Nat → ClassId} {A : Nat → Prop} {u U : State} (hv : U.vm = u.vm) (hh : U.heap = u.heap) (h : sP K A u) : sP K A U := by
  obtain ⟨h1, h2, h3, h4, h5⟩ := h
  have ha : u.vm.Alike U.vm := by rw [hv]; exact Vm.Alike.refl _
  refine ⟨?_, vk_R.same hv h2, vk_R.same hv h3, ?_, ?_⟩ <;> rw [hh]
  · exact vk_S.moved ha h1
  · exact va_Z.moved ha h4
  · exact va_Z.moved ha h5
theorem sP.call {K : Nat → ClassId} {A B : Nat → Prop} {s U : State} {H : Heap} {locs : List Loc} (hU : U.heap = H) (hW : s.WarmedH U.vm) (hS : va_S A s.heap H locs) (hAB : ∀ q, B q → A q) (h : sP K A s) : sP K B U := by
  obtain ⟨h1, h2, h3, h4, h5⟩ := h
  refine ⟨?_, vk_R.warm hW h2, vk_R.warm hW h3, ?_, ?_⟩ <;> rw [hU]
  · exact ((vk_S.moved hW.alike h1).kept hS.2.1).narrow hAB
  · exact ((va_Z.moved hW.alike h4).kept hS.2.1).narrow hAB
  · exact ((va_Z.moved hW.alike h5).kept hS.2.1).narrow hAB
def mPre (D : va_G) (K : Nat → ClassId) (ws : va_W) (sz : Nat) (av : List Value) : Array Value → State → Prop := va_Pc av (fun U => U.heap.size = sz ∧ va_P D classes ws U.heap ∧ va_K D classes (tyK K) U ∧ va_D (fun _ => True) ws ∧ sP K (va_A ws sz) U)
theorem mPre_blind {D : va_G} {K : Nat → ClassId} {ws : va_W} {sz : Nat} {av : List Value} : FrameBlind (mPre D K ws sz av) := fun a U g mk q => by
  obtain ⟨q0, q1, qP, qK, qD, qS⟩ := q
  exact ⟨q0, q1, qP, va_K.moved (u := U) (U := U.calling g mk a) (Vm.Alike.refl U.vm) qK, qD, sP.same (u := U) (U := U.calling g mk a) rfl rfl qS⟩
def mB {S : Type} (D : va_G) (A : Nat → Prop) (w2 : S → va_W) (u : S) (t : State) : Prop := va_P D classes (w2 u) t.heap ∧ va_D A (w2 u)
/-- contracts: an int answer, none, a long -/
def mI {S : Type} (l : Launch) (y : MethodName) (bytes : ByteArray) (maxL : Nat) (ret : FieldType) (rm : Room) (D : va_G) (K : Nat → ClassId) (ws : va_W) (av : List Value) (post : Int32 → S → Prop) (w2 : S → va_W) : Prop :=
  ∀ sz : Nat, Met l y (cwd y bytes maxL (some ret)) rm (mPre D K ws sz av) (va_Qi post (mB D (va_A ws sz) w2) (va_A ws sz)) rm.cells rm.slots (va_A ws sz)
def mV {S : Type} (l : Launch) (y : MethodName) (bytes : ByteArray) (maxL : Nat) (rm : Room) (D : va_G) (K : Nat → ClassId) (ws : va_W) (av : List Value) (post : S → Prop) (w2 : S → va_W) : Prop :=
  ∀ sz : Nat, Met l y (cwd y bytes maxL none) rm (mPre D K ws sz av) (va_Qv post (mB D (va_A ws sz) w2) (va_A ws sz)) rm.cells rm.slots (va_A ws sz)
/-- what is fixed while a method runs -/
def mE (p : Program) (s : State) (m : MethodId) (meth : Method) (c : Code) (cc : ByteArray) (args : Array Value) (nL : Nat) (own : String) (D : va_G) (K : Nat → ClassId) (A : Nat → Prop) : Prop :=
  p.tables.exec = Jvm.exec ∧ c.code = cc ∧ c.maxLocals = nL ∧ s.vm.findClass own = some m.cls ∧ (∀ w ∈ cw, w.before args s = true) ∧ va_K D classes (tyK K) s ∧ (∀ q : Nat, s.heap.size ≤ q → A q) ∧ meth.locks = false ∧ sP K A s
/-- the world now -/
def mG (D : va_G) (A : Nat → Prop) (s : State) (H : Heap) (locs : List Loc) (ws : va_W) : Prop := va_P D classes ws H ∧ va_D A ws ∧ va_S A s.heap H locs
section MYE
variable {l : Launch} {y : MethodName} {bytes : ByteArray} {maxL : Nat} {rm : Room} {D : va_G} {K : Nat → ClassId} {ws : va_W} {av : List Value}
theorem m_enter {ret : Option FieldType} {Qc : (Nat → Prop) → Array Value → State → Outcome → State → Prop} {sz : Nat} (hy : plainName y.cls = true) (hn : (lg_sl av).length ≤ maxL)
    (body : ∀ (p : Program) (e : Env) (s : State) (m : MethodId) (args : Array Value) (below : List Frame) (meth : Method) (c : Code) (A : Nat → Prop) (ls : Array Slot), mE p s m meth c bytes args maxL y.cls D K A → meth.sig.returnType = ret → meth.name = y.name → mG D A s s.heap [] ws → lv_has ls maxL (lv_args 0 av) → W p l e rm s m args below meth c s.heap [] 0 0 (MQ below (Qc A) args s rm.cells rm.slots A) (F0 m 0 ls [])) :
    Met l y (cwd y bytes maxL ret) rm (mPre D K ws sz av) (Qc (va_A ws sz)) rm.cells rm.slots (va_A ws sz) := by
  refine Met.ofW (cc := bytes) (maxL := maxL) (ret := ret) hy rfl ?_
  intro p e s m args below meth c s₁ B hml hv
  obtain ⟨rfl, hsz, hP, hK, hD0, hSP⟩ := hv
  subst hsz
  have hts0 := atoms_spec (ws := cwd y bytes maxL ret) B.pre
  have hl := lv_entry av (n := maxL) hn
  rw [lg_entry_eq]
  exact body p e s m _ below meth c (va_A ws s.heap.size) _ ⟨B.exec, B.bytes, hml, findClass_of_methodNamed B.named, fun w hw => hts0 w (List.mem_cons_of_mem _ hw), hK, fun q h => Or.inr h, B.notSynchronized, hSP⟩ B.returns (name_of_methodNamed B.named B.method).1 ⟨hP, hD0.self, va_S.rf⟩ hl
theorem m_enterI {S : Type} {ret : FieldType} {post : Int32 → S → Prop} {w2 : S → va_W} (hy : plainName y.cls = true) (hn : (lg_sl av).length ≤ maxL)
    (body : ∀ (p : Program) (e : Env) (s : State) (m : MethodId) (args : Array Value) (below : List Frame) (meth : Method) (c : Code) (A : Nat → Prop) (ls : Array Slot), mE p s m meth c bytes args maxL y.cls D K A → meth.sig.returnType = some ret → mG D A s s.heap [] ws → lv_has ls maxL (lv_args 0 av) → W p l e rm s m args below meth c s.heap [] 0 0 (MQ below (va_Qi post (mB D A w2) A) args s rm.cells rm.slots A) (F0 m 0 ls [])) :
    mI l y bytes maxL ret rm D K ws av post w2 := fun _ => m_enter (Qc := fun A => va_Qi post (mB D A w2) A) hy hn (fun p e s m args below meth c A ls E hr _ G hl => body p e s m args below meth c A ls E hr G hl)
theorem m_enterV {S : Type} {post : S → Prop} {w2 : S → va_W} (hy : plainName y.cls = true) (hn : (lg_sl av).length ≤ maxL)
    (body : ∀ (p : Program) (e : Env) (s : State) (m : MethodId) (args : Array Value) (below : List Frame) (meth : Method) (c : Code) (A : Nat → Prop) (ls : Array Slot), mE p s m meth c bytes args maxL y.cls D K A → meth.sig.returnType = none → meth.name = y.name → mG D A s s.heap [] ws → lv_has ls maxL (lv_args 0 av) → W p l e rm s m args below meth c s.heap [] 0 0 (MQ below (va_Qv post (mB D A w2) A) args s rm.cells rm.slots A) (F0 m 0 ls [])) :
    mV l y bytes maxL rm D K ws av post w2 := fun _ => m_enter (Qc := fun A => va_Qv post (mB D A w2) A) hy hn (fun p e s m args below meth c A ls E hr hN G hl => body p e s m args below meth c A ls E hr hN G hl)
end MYE
section MY
variable {p : Program} {l : Launch} {e : Env} {R : Room} {s : State} {m : MethodId} {args : Array Value} {below : List Frame} {meth : Method} {c : Code} {H : Heap} {locs : List Loc} {cells slots : Nat} {Q : State → Prop}
variable {cc bytes : ByteArray} {nL maxL pc index : Nat} {ls : Array Slot} {rest : List Value} {D : va_G} {K : Nat → ClassId} {A : Nat → Prop} {a : Nat} {ws : va_W} {own : String}
theorem mG.sub {ws' : va_W} (G : mG D A s H locs ws) (is : List Nat) (hn : va_nd is = true) (hs : is.map (fun i => ws[i]?) = ws'.map some) : mG D A s H locs ws' := by
  refine ⟨fun k q hk => ?_, G.2.1.sub is hn hs, G.2.2⟩
  have h1 : (is.map (fun i => ws[i]?))[k]? = some (some q) := by rw [hs, List.getElem?_map, hk]; rfl
  rw [List.getElem?_map] at h1
  cases hi : is[k]? with
  | none => rw [hi] at h1; cases h1
  | some i => rw [hi] at h1; exact G.1 i q (Option.some.inj h1)
theorem m_get (E : mE p s m meth c cc args nL own D K A) (G : mG D A s H locs ws) (q0 : Nat) {ci : Nat} {fs : List Value} (he : ws[q0]? = some (a, .inr (ci, fs))) (k : Nat) {C : String} {T : u_T} {N : Nat} (hc : classes[ci]? = some (C, T, N)) (hk : k < N) (hl : Cond.fieldLink own index (T k).1 (T k).2.1 (T k).2.2.1 ∈ cw) {v : Value} (hv : fs[k]? = some v) (hdg : decode cc pc = .ok (.getfield index, 3))
    (kk : W p l e R s m args below meth c H locs cells slots Q (F0 m (pc + 3) ls (v :: rest))) : W p l e R s m args below meth c H locs cells slots Q (F0 m pc ls (.ref a :: rest)) :=
  va_get E.1 E.2.1 E.2.2.2.2.1 (cls_in hc) E.2.2.2.1 E.2.2.2.2.2.1 G.1 q0 he hc k hk (E.2.2.2.2.1 _ hl) (fun _ h => h) hv hdg kk
theorem m_put (E : mE p s m meth c cc args nL own D K A) (G : mG D A s H locs ws) (q0 : Nat) {ci : Nat} {fs : List Value} (he : ws[q0]? = some (a, .inr (ci, fs))) (k : Nat) {C : String} {T : u_T} {N : Nat} (hc : classes[ci]? = some (C, T, N)) (hk : k < N) (hl : Cond.fieldLink own index (T k).1 (T k).2.1 (T k).2.2.1 ∈ cw) (hfin : (T k).2.2.2 = false) {v : Value} (hn : narrow (cls_ty ci k) v = v) (hfit : fits (cls_ty ci k) v = true) (hlen : k < fs.length) (hdg : decode cc pc = .ok (.putfield index, 3))
    (kk : ∀ (H1 : Heap) (locs1 : List Loc), mG D A s H1 locs1 (ws.set q0 (a, .inr (ci, fs.set k v))) → W p l e R s m args below meth c H1 locs1 cells slots Q (F0 m (pc + 3) ls rest)) : W p l e R s m args below meth c H locs cells slots Q (F0 m pc ls (v :: .ref a :: rest)) :=
  va_put E.1 E.2.1 E.2.2.2.2.1 (cls_in hc) (cls_ty ci) (cls_tyok hc) (cls_nm hc) E.2.2.2.1 E.2.2.2.2.2.1 G.1 G.2.1 G.2.2 q0 he hc k hk (E.2.2.2.2.1 _ hl) (fun _ h => h) hfin (cls_tyok hc k hk) hn hfit hlen hdg (fun H1 l1 h1 h2 h3 => kk H1 l1 ⟨h1, h2, h3⟩)
theorem m_putF (E : mE p s m meth c cc args nL own D K A) (G : mG D A s H locs ws) (hN : meth.name = "<init>") (q0 : Nat) {ci : Nat} {fs : List Value} (he : ws[q0]? = some (a, .inr (ci, fs))) (k : Nat) {C : String} {T : u_T} {N : Nat} (hc : classes[ci]? = some (C, T, N)) (hk : k < N) (hl : Cond.fieldLink own index (T k).1 (T k).2.1 (T k).2.2.1 ∈ cw) (hfin : (T k).2.2.2 = true) (hdecl : (T k).1 = own) {v : Value} (hn : narrow (cls_ty ci k) v = v) (hfit : fits (cls_ty ci k) v = true) (hlen : k < fs.length) (hdg : decode cc pc = .ok (.putfield index, 3))
    (kk : ∀ (H1 : Heap) (locs1 : List Loc), mG D A s H1 locs1 (ws.set q0 (a, .inr (ci, fs.set k v))) → W p l e R s m args below meth c H1 locs1 cells slots Q (F0 m (pc + 3) ls rest)) : W p l e R s m args below meth c H locs cells slots Q (F0 m pc ls (v :: .ref a :: rest)) :=
  va_putF E.1 E.2.1 E.2.2.2.2.1 (cls_in hc) (cls_ty ci) (cls_tyok hc) (cls_nm hc) E.2.2.2.1 E.2.2.2.2.2.1 G.1 G.2.1 G.2.2 q0 he hc k hk (E.2.2.2.2.1 _ hl) (fun _ h => h) hfin hN hdecl (cls_tyok hc k hk) hn hfit hlen hdg (fun H1 l1 h1 h2 h3 => kk H1 l1 ⟨h1, h2, h3⟩)
theorem m_iald (E : mE p s m meth c cc args nL own D K A) (G : mG D A s H locs ws) (q0 : Nat) {n : Nat} {f : Nat → Int32} (ha : ws[q0]? = some (a, .inl (K 0, n, .inl f))) {i : Int32} (hin : vp_in i n) (hdg : decode cc pc = .ok (.iaload, 1))
    (kk : W p l e R s m args below meth c H locs cells slots Q (F0 m (pc + 1) ls (.int (f i.toNatClampNeg) :: rest))) : W p l e R s m args below meth c H locs cells slots Q (F0 m pc ls (.int i :: .ref a :: rest)) := va_iald E.1 E.2.1 E.2.2.2.2.2.1 G.1 q0 0 ha rfl hin hdg kk
theorem m_bald (E : mE p s m meth c cc args nL own D K A) (G : mG D A s H locs ws) (q0 : Nat) {n : Nat} {f : Nat → Int32} (ha : ws[q0]? = some (a, .inl (K 1, n, .inl f))) {i : Int32} (hin : vp_in i n) (hdg : decode cc pc = .ok (.baload, 1))
    (kk : W p l e R s m args below meth c H locs cells slots Q (F0 m (pc + 1) ls (.int (f i.toNatClampNeg) :: rest))) : W p l e R s m args below meth c H locs cells slots Q (F0 m pc ls (.int i :: .ref a :: rest)) := va_bald E.1 E.2.1 E.2.2.2.2.2.1 G.1 q0 1 ha rfl hin hdg kk
theorem m_lald (E : mE p s m meth c cc args nL own D K A) (G : mG D A s H locs ws) (q0 : Nat) {n : Nat} {f : Nat → Int64} (ha : ws[q0]? = some (a, .inl (K 2, n, .inr (.inl f)))) {i : Int32} (hin : vp_in i n) (hdg : decode cc pc = .ok (.laload, 1))
    (kk : W p l e R s m args below meth c H locs cells slots Q (F0 m (pc + 1) ls (.long (f i.toNatClampNeg) :: rest))) : W p l e R s m args below meth c H locs cells slots Q (F0 m pc ls (.int i :: .ref a :: rest)) := va_lald E.1 E.2.1 E.2.2.2.2.2.1 G.1 q0 2 ha rfl hin hdg kk
theorem m_zald (E : mE p s m meth c cc args nL own D K A) (G : mG D A s H locs ws) (q0 : Nat) {n : Nat} {f : Nat → Int32} (ha : ws[q0]? = some (a, .inl (K 3, n, .inl f))) {i : Int32} (hin : vp_in i n) (hdg : decode cc pc = .ok (.baload, 1))
    (kk : W p l e R s m args below meth c H locs cells slots Q (F0 m (pc + 1) ls (.int (f i.toNatClampNeg) :: rest))) : W p l e R s m args below meth c H locs cells slots Q (F0 m pc ls (.int i :: .ref a :: rest)) := va_zald E.1 E.2.1 E.2.2.2.2.2.1 G.1 q0 3 ha rfl hin hdg kk
theorem m_aald (E : mE p s m meth c cc args nL own D K A) (G : mG D A s H locs ws) (q0 t0 : Nat) {cA : ClassId} {C : String} {n : Nat} {f : Nat → Option Nat} (ha : ws[q0]? = some (a, .inl (cA, n, .inr (.inr (.inr (.inr f)))))) (ht : (tyK K)[t0]? = some (cA, .object C)) {i : Int32} (hin : vp_in i n) {v : Value} (hv : va_rf (f i.toNatClampNeg) = v) (hdg : decode cc pc = .ok (.aaload, 1))
    (kk : W p l e R s m args below meth c H locs cells slots Q (F0 m (pc + 1) ls (v :: rest))) : W p l e R s m args below meth c H locs cells slots Q (F0 m pc ls (.int i :: .ref a :: rest)) := va_aldq E.1 E.2.1 E.2.2.2.2.2.1 G.1 q0 t0 ha ht hin hdg (by rw [hv]; exact kk)
theorem m_iast (E : mE p s m meth c cc args nL own D K A) (G : mG D A s H locs ws) (q0 : Nat) {n : Nat} {f : Nat → Int32} (ha : ws[q0]? = some (a, .inl (K 0, n, .inl f))) {i x : Int32} (hin : vp_in i n) (hdg : decode cc pc = .ok (.iastore, 1))
    (kk : ∀ (H1 : Heap) (locs1 : List Loc), mG D A s H1 locs1 (ws.set q0 (a, .inl (K 0, n, .inl (upd f i.toNatClampNeg x)))) → W p l e R s m args below meth c H1 locs1 cells slots Q (F0 m (pc + 1) ls rest)) : W p l e R s m args below meth c H locs cells slots Q (F0 m pc ls (.int x :: .int i :: .ref a :: rest)) := va_iast E.1 E.2.1 E.2.2.2.2.2.1 G.1 G.2.1 G.2.2 q0 0 ha rfl hin hdg (fun H1 l1 h1 h2 h3 => kk H1 l1 ⟨h1, h2, h3⟩)
theorem m_bast (E : mE p s m meth c cc args nL own D K A) (G : mG D A s H locs ws) (q0 : Nat) {n : Nat} {f : Nat → Int32} (ha : ws[q0]? = some (a, .inl (K 1, n, .inl f))) {i x : Int32} (hin : vp_in i n) (hdg : decode cc pc = .ok (.bastore, 1))
    (kk : ∀ (H1 : Heap) (locs1 : List Loc), mG D A s H1 locs1 (ws.set q0 (a, .inl (K 1, n, .inl (upd f i.toNatClampNeg (vp_nar .byte x))))) → W p l e R s m args below meth c H1 locs1 cells slots Q (F0 m (pc + 1) ls rest)) : W p l e R s m args below meth c H locs cells slots Q (F0 m pc ls (.int x :: .int i :: .ref a :: rest)) := va_bast E.1 E.2.1 E.2.2.2.2.2.1 G.1 G.2.1 G.2.2 q0 1 ha rfl hin hdg (fun H1 l1 h1 h2 h3 => kk H1 l1 ⟨h1, h2, h3⟩)
theorem m_zast (E : mE p s m meth c cc args nL own D K A) (G : mG D A s H locs ws) (q0 : Nat) {n : Nat} {f : Nat → Int32} (ha : ws[q0]? = some (a, .inl (K 3, n, .inl f))) {i x : Int32} (hin : vp_in i n) (hdg : decode cc pc = .ok (.bastore, 1))
    (kk : ∀ (H1 : Heap) (locs1 : List Loc), mG D A s H1 locs1 (ws.set q0 (a, .inl (K 3, n, .inl (upd f i.toNatClampNeg (vp_nar .boolean x))))) → W p l e R s m args below meth c H1 locs1 cells slots Q (F0 m (pc + 1) ls rest)) : W p l e R s m args below meth c H locs cells slots Q (F0 m pc ls (.int x :: .int i :: .ref a :: rest)) := va_zast E.1 E.2.1 E.2.2.2.2.2.1 G.1 G.2.1 G.2.2 q0 3 ha rfl hin hdg (fun H1 l1 h1 h2 h3 => kk H1 l1 ⟨h1, h2, h3⟩)
theorem m_aast (E : mE p s m meth c cc args nL own D K A) (G : mG D A s H locs ws) (q0 t0 qk : Nat) {ci : Nat} {cA : ClassId} {r : vw_C} {n v : Nat} {vs : List Value} {f : Nat → Option Nat} (ha : ws[q0]? = some (a, .inl (cA, n, .inr (.inr (.inr (.inr f)))))) (ht : (tyK K)[t0]? = some (cA, .object r.1)) (hv : ws[qk]? = some (v, .inr (ci, vs))) (hc : classes[ci]? = some r) {i : Int32} (hin : vp_in i n) (hdg : decode cc pc = .ok (.aastore, 1))
    (kk : ∀ (H1 : Heap) (locs1 : List Loc), mG D A s H1 locs1 (ws.set q0 (a, .inl (cA, n, .inr (.inr (.inr (.inr (va_up f i.toNatClampNeg (some v)))))))) → W p l e R s m args below meth c H1 locs1 cells slots Q (F0 m (pc + 1) ls rest)) : W p l e R s m args below meth c H locs cells slots Q (F0 m pc ls (.ref v :: .int i :: .ref a :: rest)) := va_astq E.1 E.2.1 E.2.2.2.2.2.1 G.1 G.2.1 G.2.2 q0 t0 qk ci ha ht hv hc hin hdg (fun H1 l1 h1 h2 h3 => kk H1 l1 ⟨h1, h2, h3⟩)
theorem m_alen (E : mE p s m meth c cc args nL own D K A) (G : mG D A s H locs ws) (q0 t0 : Nat) {cA : ClassId} {x : vp_A} (ha : ws[q0]? = some (a, .inl (cA, x))) {ty : FieldType} (ht : (tyK K)[t0]? = some (cA, ty)) {v : Int32} (hv : Int32.ofNat x.1 = v) (hdg : decode cc pc = .ok (.arraylength, 1))
    (kk : W p l e R s m args below meth c H locs cells slots Q (F0 m (pc + 1) ls (.int v :: rest))) : W p l e R s m args below meth c H locs cells slots Q (F0 m pc ls (.ref a :: rest)) := va_alen E.1 E.2.1 E.2.2.2.2.2.1 G.1 q0 t0 ha ht hv hdg kk
/-- one class of arrays for each element -/
theorem mK_one {cA : ClassId} {ty : FieldType} {t0 : Nat} (hK : va_K D classes (tyK K) s) (hK2 : va_K D classes (tyK K ++ [(cA, ty)]) s) (ht : (tyK K)[t0]? = some (K t0, ty)) : cA = K t0 := by
  have h1 := (hK.2 t0 _ ht).2
  have h2 := (hK2.2 7 (cA, ty) rfl).2
  cases ty with
  | object C =>
    obtain ⟨-, -, -, -, -, e1⟩ := h1
    obtain ⟨-, -, -, -, -, e2⟩ := h2
    exact Option.some.inj (e2.symm.trans e1)
  | _ => exact Option.some.inj (h2.symm.trans h1)
theorem m_newi (E : mE p s m meth c cc args nL own D K A) (G : mG D A s H locs ws) {n : Int32} {N' : Nat} (hn : ¬ n < 0) (hN : n.toNatClampNeg = N') (hbytes : N' * 4 ≤ 536870912) (hcells : cells + 1 ≤ R.cells) (hslots : slots + N' ≤ R.slots) (hdg : decode cc pc = .ok (.newarray .int, 2))
    (kk : ∀ (q : Nat) (H1 : Heap), mG D A s H1 locs (ws ++ [(q, .inl (K 0, N', .inl (fun _ => 0)))]) → W p l e R s m args below meth c H1 locs (cells + 1) (slots + N') Q (F0 m (pc + 2) ls (.ref q :: rest))) : W p l e R s m args below meth c H locs cells slots Q (F0 m pc ls (.int n :: rest)) :=
  va_newa E.1 E.2.1 (atype := .int) (ty := .int) (E.2.2.2.2.1 _ mw_aInt) rfl E.2.2.2.2.2.1 G.1 G.2.1 G.2.2 E.2.2.2.2.2.2.1 (a0 := (N', .inl (fun _ => 0))) (fun _ => rfl) hn hN hbytes hcells hslots hdg (fun q cA H1 k1 h1 h2 h3 => by
    have e1 := mK_one (t0 := 0) E.2.2.2.2.2.1 k1 rfl
    subst e1
    exact kk q H1 ⟨h1, h2, h3⟩)
theorem m_newb (E : mE p s m meth c cc args nL own D K A) (G : mG D A s H locs ws) {n : Int32} {N' : Nat} (hn : ¬ n < 0) (hN : n.toNatClampNeg = N') (hbytes : N' * 1 ≤ 536870912) (hcells : cells + 1 ≤ R.cells) (hslots : slots + N' ≤ R.slots) (hdg : decode cc pc = .ok (.newarray .byte, 2))
    (kk : ∀ (q : Nat) (H1 : Heap), mG D A s H1 locs (ws ++ [(q, .inl (K 1, N', .inl (fun _ => 0)))]) → W p l e R s m args below meth c H1 locs (cells + 1) (slots + N') Q (F0 m (pc + 2) ls (.ref q :: rest))) : W p l e R s m args below meth c H locs cells slots Q (F0 m pc ls (.int n :: rest)) :=
  va_newa E.1 E.2.1 (atype := .byte) (ty := .byte) (E.2.2.2.2.1 _ mw_aByte) rfl E.2.2.2.2.2.1 G.1 G.2.1 G.2.2 E.2.2.2.2.2.2.1 (a0 := (N', .inl (fun _ => 0))) (fun _ => rfl) hn hN hbytes hcells hslots hdg (fun q cA H1 k1 h1 h2 h3 => by
    have e1 := mK_one (t0 := 1) E.2.2.2.2.2.1 k1 rfl
    subst e1
    exact kk q H1 ⟨h1, h2, h3⟩)
theorem m_newl (E : mE p s m meth c cc args nL own D K A) (G : mG D A s H locs ws) {n : Int32} {N' : Nat} (hn : ¬ n < 0) (hN : n.toNatClampNeg = N') (hbytes : N' * 8 ≤ 536870912) (hcells : cells + 1 ≤ R.cells) (hslots : slots + N' ≤ R.slots) (hdg : decode cc pc = .ok (.newarray .long, 2))
    (kk : ∀ (q : Nat) (H1 : Heap), mG D A s H1 locs (ws ++ [(q, .inl (K 2, N', .inr (.inl (fun _ => 0))))]) → W p l e R s m args below meth c H1 locs (cells + 1) (slots + N') Q (F0 m (pc + 2) ls (.ref q :: rest))) : W p l e R s m args below meth c H locs cells slots Q (F0 m pc ls (.int n :: rest)) :=
  va_newa E.1 E.2.1 (atype := .long) (ty := .long) (E.2.2.2.2.1 _ mw_aLong) rfl E.2.2.2.2.2.1 G.1 G.2.1 G.2.2 E.2.2.2.2.2.2.1 (a0 := (N', .inr (.inl (fun _ => 0)))) (fun _ => rfl) hn hN hbytes hcells hslots hdg (fun q cA H1 k1 h1 h2 h3 => by
    have e1 := mK_one (t0 := 2) E.2.2.2.2.2.1 k1 rfl
    subst e1
    exact kk q H1 ⟨h1, h2, h3⟩)
theorem m_newz (E : mE p s m meth c cc args nL own D K A) (G : mG D A s H locs ws) {n : Int32} {N' : Nat} (hn : ¬ n < 0) (hN : n.toNatClampNeg = N') (hbytes : N' * 1 ≤ 536870912) (hcells : cells + 1 ≤ R.cells) (hslots : slots + N' ≤ R.slots) (hdg : decode cc pc = .ok (.newarray .boolean, 2))
    (kk : ∀ (q : Nat) (H1 : Heap), mG D A s H1 locs (ws ++ [(q, .inl (K 3, N', .inl (fun _ => 0)))]) → W p l e R s m args below meth c H1 locs (cells + 1) (slots + N') Q (F0 m (pc + 2) ls (.ref q :: rest))) : W p l e R s m args below meth c H locs cells slots Q (F0 m pc ls (.int n :: rest)) :=
  va_newa E.1 E.2.1 (atype := .boolean) (ty := .boolean) (E.2.2.2.2.1 _ mw_aBool) rfl E.2.2.2.2.2.1 G.1 G.2.1 G.2.2 E.2.2.2.2.2.2.1 (a0 := (N', .inl (fun _ => 0))) (fun _ => rfl) hn hN hbytes hcells hslots hdg (fun q cA H1 k1 h1 h2 h3 => by
    have e1 := mK_one (t0 := 3) E.2.2.2.2.2.1 k1 rfl
    subst e1
    exact kk q H1 ⟨h1, h2, h3⟩)
theorem m_newq (E : mE p s m meth c cc args nL own D K A) (G : mG D A s H locs ws) (t0 : Nat) {C : String} (ht : (tyK K)[t0]? = some (K t0, .object C)) (ho : Cond.arrayOver (.object C) ∈ cw) (hcl : Cond.classLink own index C ∈ cw) {n : Int32} {N' : Nat} (hn : ¬ n < 0) (hN : n.toNatClampNeg = N') (hbytes : N' * 4 ≤ 536870912) (hcells : cells + 1 ≤ R.cells) (hslots : slots + N' ≤ R.slots) (hdg : decode cc pc = .ok (.anewarray index, 3))
    (kk : ∀ (q : Nat) (H1 : Heap), mG D A s H1 locs (ws ++ [(q, .inl (K t0, N', .inr (.inr (.inr (.inr (fun _ => none))))))]) → W p l e R s m args below meth c H1 locs (cells + 1) (slots + N') Q (F0 m (pc + 3) ls (.ref q :: rest))) : W p l e R s m args below meth c H locs cells slots Q (F0 m pc ls (.int n :: rest)) :=
  va_newq E.1 E.2.1 E.2.2.2.1 (E.2.2.2.2.1 _ hcl) (va_AO.of (E.2.2.2.2.1 _ ho)) E.2.2.2.2.2.1 G.1 G.2.1 G.2.2 E.2.2.2.2.2.2.1 hn hN hbytes hcells hslots hdg (fun q cA H1 k1 h1 h2 h3 => by
    have e1 := mK_one (t0 := t0) E.2.2.2.2.2.1 k1 ht
    subst e1
    exact kk q H1 ⟨h1, h2, h3⟩)
theorem m_new (E : mE p s m meth c cc args nL own D K A) (G : mG D A s H locs ws) (ci : Nat) {C : String} {T : u_T} {N : Nat} (hc : classes[ci]? = some (C, T, N)) {fs : List Value} (hfs : ∀ j, j < N → defaultValue (cls_ty ci j) = vp_V fs j) (hcl : Cond.classLink own index C ∈ cw) (hin : Cond.instantiable C N ∈ cw) (hini : Cond.initialized C ∈ cw) (hcells : cells + 1 ≤ R.cells) (hslots : slots + N ≤ R.slots) (hdg : decode cc pc = .ok (.new index, 3))
    (kk : ∀ (q : Nat) (H1 : Heap), mG D A s H1 locs (ws ++ [(q, .inr (ci, fs))]) → W p l e R s m args below meth c H1 locs (cells + 1) (slots + N) Q (F0 m (pc + 3) ls (.ref q :: rest))) : W p l e R s m args below meth c H locs cells slots Q (F0 m pc ls rest) :=
  va_new E.1 E.2.1 E.2.2.2.2.1 (cls_in hc) (cls_ty ci) (cls_tyok hc) E.2.2.2.1 (E.2.2.2.2.1 _ hcl) (E.2.2.2.2.1 _ hin) (E.2.2.2.2.1 _ hini) E.2.2.2.2.2.1 G.1 G.2.1 G.2.2 E.2.2.2.2.2.2.1 hc hfs hcells hslots hdg (fun q H1 h1 h2 h3 => kk q H1 ⟨h1, h2, h3⟩)
theorem m_ci {x : Int32} (v : Int32) (hv : x = v) (kk : W p l e R s m args below meth c H locs cells slots Q (F0 m pc ls (.int v :: rest))) : W p l e R s m args below meth c H locs cells slots Q (F0 m pc ls (.int x :: rest)) := hv ▸ kk
theorem m_objInit {lvs : List (Nat × Value)} (E : mE p s m meth c cc args nL own D K A) (hl : lv_has ls nL lvs) (hlk : Cond.methodLink own index Lib.objectInit ∈ cw) (hd : decode cc pc = .ok (.invokespecial index, 3)) (hframes : 1 ≤ R.frames) (hroom : (rest.map fun v => v.category).sum ≤ 8) (hlocals : 20 ≤ R.locals)
    (kk : W p l e R s m args below meth c H locs cells slots Q (F0 m (pc + 3) ls rest)) : W p l e R s m args below meth c H locs cells slots Q (F0 m pc ls (.ref a :: rest)) :=
  W.objInit E.1 E.2.1 E.2.2.2.1 (E.2.2.2.2.1 _ hlk) (E.2.2.2.2.1 _ mw_oInst) (E.2.2.2.2.1 _ mw_oCode) rfl (by rw [E.2.2.1]; exact hl.1) rfl hd hframes (Nat.le_trans (Nat.add_le_add_right (lv_room hroom) 12) hlocals) kk
/-- a call's world: the callee's part out of the caller's, the rest stays -/
theorem m_free {wc : va_W} (E : mE p s m meth c cc args nL own D K A) (G : mG D A s H locs ws) (isC : List Nat) (hC : isC.map (fun i => ws[i]?) = wc.map some) : ∀ q, va_A wc H.size q → A q := va_free G.2.1 G.2.2 E.2.2.2.2.2.2.1 isC hC
theorem m_pre {wc : va_W} {av : List Value} (E : mE p s m meth c cc args nL own D K A) (G : mG D A s H locs ws) (isC : List Nat) (hn : va_nd isC = true) (hC : isC.map (fun i => ws[i]?) = wc.map some) : ∀ U : State, U.heap = H → s.WarmedH U.vm → mPre D K wc H.size av av.toArray U := fun U hU hW => by
  have G1 := G.sub (ws' := wc) isC hn hC
  exact ⟨rfl, by rw [hU], by rw [hU]; exact G1.1, va_K.moved hW.alike E.2.2.2.2.2.1, G1.2.1.weaken (fun _ _ _ _ => trivial), sP.call hU hW G.2.2 (m_free E G isC hC) E.2.2.2.2.2.2.2.2⟩
theorem m_callB {y : MethodName} {ret : Option FieldType} {rm : Room} (E : mE p s m meth c cc args nL own D K A) (n : Nat) (hcode : Cond.code y bytes maxL ret ∈ cw) (hini : Cond.initialized y.cls ∈ cw) (hlk : Cond.methodLink own index y ∈ cw) (hd : y.cls ≠ "java/lang/invoke/MethodHandle" ∧ y.cls ≠ "java/lang/invoke/VarHandle" ∧ (parseMethodDescriptor y.desc).map (fun d => d.parameters.length) = some n) (hR : rm.frames + 1 ≤ R.frames ∧ 8 + (maxL + 11) + rm.locals ≤ R.locals) :
    CallB R s args own index y bytes maxL ret (cwd y bytes maxL ret) rm rm.cells rm.slots n := by
  refine ⟨rfl, rfl, hR.1, hR.2, cwd_warm E.2.2.2.2.1 hcode, List.mem_cons_self, E.2.2.2.2.1 _ hcode, E.2.2.2.2.1 _ hini, ⟨hd.1, hd.2.1⟩, fun sig h => ?_, E.2.2.2.2.1 _ hlk⟩
  have h2 := hd.2.2
  rw [h] at h2
  exact (Option.some.inj h2).symm
theorem m_callN {y : MethodName} {ret : Option FieldType} {rm : Room} {host : String} (E : mE p s m meth c cc args nL own D K A) (n : Nat) (hcode : Cond.code y bytes maxL ret ∈ cw) (hini : Cond.initialized y.cls ∈ cw) (hlk : Cond.methodLinkNest own index y host ∈ cw) (hd : y.cls ≠ "java/lang/invoke/MethodHandle" ∧ y.cls ≠ "java/lang/invoke/VarHandle" ∧ (parseMethodDescriptor y.desc).map (fun d => d.parameters.length) = some n) (hR : rm.frames + 1 ≤ R.frames ∧ 8 + (maxL + 11) + rm.locals ≤ R.locals) :
    va_CN R s args own index y host bytes maxL ret (cwd y bytes maxL ret) rm rm.cells rm.slots n := by
  refine ⟨⟨rfl, rfl, hR.1, hR.2, cwd_warm E.2.2.2.2.1 hcode, List.mem_cons_self⟩, E.2.2.2.2.1 _ hcode, E.2.2.2.2.1 _ hini, ⟨hd.1, hd.2.1⟩, fun sig h => ?_, E.2.2.2.2.1 _ hlk⟩
  have h2 := hd.2.2
  rw [h] at h2
  exact (Option.some.inj h2).symm
/-- invokevirtual, an int answer -/
theorem m_vi {S : Type} {y : MethodName} {ret : FieldType} {rm : Room} {wc wr : va_W} {b : Nat} {As : List Value} {post : Int32 → S → Prop} {w2 : S → va_W} {st0 : List Value} {lvs : List (Nat × Value)} (E : mE p s m meth c cc args nL own D K A) (G : mG D A s H locs ws) (hl : lv_has ls nL lvs) (hM : mI l y bytes maxL ret rm D K wc (.ref b :: As) post w2) (isC isR : List Nat) (hC : isC.map (fun i => ws[i]?) = wc.map some) (hR : isR.map (fun i => ws[i]?) = wr.map some) (hnC : va_nd isC = true) (hnR : va_nd isR = true) (hdis : ∀ i ∈ isR, i ∉ isC)
    (q0 : Nat) {ci : Nat} {fs : List Value} {r : vw_C} (he : wc[q0]? = some (b, .inr (ci, fs))) (hc : classes[ci]? = some r) (hy : r.1 = y.cls) (n : Nat) (hn : As.length = n) (hcode : Cond.code y bytes maxL (some ret) ∈ cw) (hini : Cond.initialized y.cls ∈ cw) (hlk : Cond.methodLink own index y ∈ cw) (hin : Cond.instanceMethod y ∈ cw) (hsel : Cond.selects y.cls y y ∈ cw) (hd : y.cls ≠ "java/lang/invoke/MethodHandle" ∧ y.cls ≠ "java/lang/invoke/VarHandle" ∧ (parseMethodDescriptor y.desc).map (fun d => d.parameters.length) = some n) (hRm : rm.frames + 1 ≤ R.frames ∧ 8 + (maxL + 11) + rm.locals ≤ R.locals)
    (hst : st0 = As.reverse ++ .ref b :: rest) (hw : (rest.map fun v => v.category).sum ≤ 8) (hf : cells + rm.cells ≤ R.cells ∧ slots + rm.slots ≤ R.slots) (hdg : decode cc pc = .ok (.invokevirtual index, 3))
    (kk : ∀ (r1 : Int32) (u : S) (H1 : Heap) (locs1 : List Loc), post r1 u → mG D A s H1 locs1 (wr ++ w2 u) → W p l e R s m args below meth c H1 locs1 (cells + rm.cells) (slots + rm.slots) Q (F0 m (pc + 3) ls (.int r1 :: rest))) : W p l e R s m args below meth c H locs cells slots Q (F0 m pc ls st0) := by
  have hF := m_free E G isC hC
  have G1 := G.sub (ws' := wc) isC hnC hC
  have hrec := va_recv E.2.2.2.2.2.1 G1.1 hc he
  rw [hy] at hrec
  refine va_calli (va_runV (As := As) (rest := rest) (n := n) (nL := nL) (C := y.cls) (Ts := cw) ⟨E.1, E.2.1, E.2.2.1, E.2.2.2.1, E.2.2.2.2.1⟩ (hM H.size) ⟨m_callB E n hcode hini hlk hd hRm, E.2.2.2.2.1 _ hin, E.2.2.2.2.1 _ hsel⟩ ⟨mPre_blind, hrec, m_pre E G isC hnC hC⟩ rfl hn hl.1 hst (lv_room hw) hdg hf) G.2.2 (fun q _ h => hF q h) hF (fun r1 u t H1 locs1 ht hvm hp hB hz1 hk1 hS1 => ?_)
  obtain ⟨hP1, hD1⟩ := hB
  rw [ht] at hP1
  obtain ⟨hP2, hD2⟩ := va_join (wr := wr) (w1 := w2 u) G.1 G.2.1 isC isR hC hR hnR hdis hk1 hF hP1 hD1
  exact kk r1 u H1 locs1 hp ⟨hP2, hD2, hS1⟩
/-- invokevirtual, no answer -/
theorem m_vv {S : Type} {y : MethodName} {rm : Room} {wc wr : va_W} {b : Nat} {As : List Value} {post : S → Prop} {w2 : S → va_W} {st0 : List Value} {lvs : List (Nat × Value)} (E : mE p s m meth c cc args nL own D K A) (G : mG D A s H locs ws) (hl : lv_has ls nL lvs) (hM : mV l y bytes maxL rm D K wc (.ref b :: As) post w2) (isC isR : List Nat) (hC : isC.map (fun i => ws[i]?) = wc.map some) (hR : isR.map (fun i => ws[i]?) = wr.map some) (hnC : va_nd isC = true) (hnR : va_nd isR = true) (hdis : ∀ i ∈ isR, i ∉ isC)
    (q0 : Nat) {ci : Nat} {fs : List Value} {r : vw_C} (he : wc[q0]? = some (b, .inr (ci, fs))) (hc : classes[ci]? = some r) (hy : r.1 = y.cls) (n : Nat) (hn : As.length = n) (hcode : Cond.code y bytes maxL none ∈ cw) (hini : Cond.initialized y.cls ∈ cw) (hlk : Cond.methodLink own index y ∈ cw) (hin : Cond.instanceMethod y ∈ cw) (hsel : Cond.selects y.cls y y ∈ cw) (hd : y.cls ≠ "java/lang/invoke/MethodHandle" ∧ y.cls ≠ "java/lang/invoke/VarHandle" ∧ (parseMethodDescriptor y.desc).map (fun d => d.parameters.length) = some n) (hRm : rm.frames + 1 ≤ R.frames ∧ 8 + (maxL + 11) + rm.locals ≤ R.locals)
    (hst : st0 = As.reverse ++ .ref b :: rest) (hw : (rest.map fun v => v.category).sum ≤ 8) (hf : cells + rm.cells ≤ R.cells ∧ slots + rm.slots ≤ R.slots) (hdg : decode cc pc = .ok (.invokevirtual index, 3))
    (kk : ∀ (u : S) (H1 : Heap) (locs1 : List Loc), post u → mG D A s H1 locs1 (wr ++ w2 u) → W p l e R s m args below meth c H1 locs1 (cells + rm.cells) (slots + rm.slots) Q (F0 m (pc + 3) ls rest)) : W p l e R s m args below meth c H locs cells slots Q (F0 m pc ls st0) := by
  have hF := m_free E G isC hC
  have G1 := G.sub (ws' := wc) isC hnC hC
  have hrec := va_recv E.2.2.2.2.2.1 G1.1 hc he
  rw [hy] at hrec
  refine va_callv (va_runV (As := As) (rest := rest) (n := n) (nL := nL) (C := y.cls) (Ts := cw) ⟨E.1, E.2.1, E.2.2.1, E.2.2.2.1, E.2.2.2.2.1⟩ (hM H.size) ⟨m_callB E n hcode hini hlk hd hRm, E.2.2.2.2.1 _ hin, E.2.2.2.2.1 _ hsel⟩ ⟨mPre_blind, hrec, m_pre E G isC hnC hC⟩ rfl hn hl.1 hst (lv_room hw) hdg hf) G.2.2 (fun q _ h => hF q h) hF (fun u t H1 locs1 ht hvm hp hB hz1 hk1 hS1 => ?_)
  obtain ⟨hP1, hD1⟩ := hB
  rw [ht] at hP1
  obtain ⟨hP2, hD2⟩ := va_join (wr := wr) (w1 := w2 u) G.1 G.2.1 isC isR hC hR hnR hdis hk1 hF hP1 hD1
  exact kk u H1 locs1 hp ⟨hP2, hD2, hS1⟩
/-- invokestatic, an int answer -/
theorem m_si {S : Type} {y : MethodName} {ret : FieldType} {rm : Room} {wc wr : va_W} {As : List Value} {post : Int32 → S → Prop} {w2 : S → va_W} {st0 : List Value} {lvs : List (Nat × Value)} (E : mE p s m meth c cc args nL own D K A) (G : mG D A s H locs ws) (hl : lv_has ls nL lvs) (hM : mI l y bytes maxL ret rm D K wc As post w2) (isC isR : List Nat) (hC : isC.map (fun i => ws[i]?) = wc.map some) (hR : isR.map (fun i => ws[i]?) = wr.map some) (hnC : va_nd isC = true) (hnR : va_nd isR = true) (hdis : ∀ i ∈ isR, i ∉ isC)
    (n : Nat) (hn : As.length = n) (hcode : Cond.code y bytes maxL (some ret) ∈ cw) (hini : Cond.initialized y.cls ∈ cw) (hlk : Cond.methodLink own index y ∈ cw) (hin : Cond.static y ∈ cw) (hd : y.cls ≠ "java/lang/invoke/MethodHandle" ∧ y.cls ≠ "java/lang/invoke/VarHandle" ∧ (parseMethodDescriptor y.desc).map (fun d => d.parameters.length) = some n) (hRm : rm.frames + 1 ≤ R.frames ∧ 8 + (maxL + 11) + rm.locals ≤ R.locals)
    (hst : st0 = As.reverse ++ rest) (hw : (rest.map fun v => v.category).sum ≤ 8) (hf : cells + rm.cells ≤ R.cells ∧ slots + rm.slots ≤ R.slots) (hdg : decode cc pc = .ok (.invokestatic index, 3))
    (kk : ∀ (r1 : Int32) (u : S) (H1 : Heap) (locs1 : List Loc), post r1 u → mG D A s H1 locs1 (wr ++ w2 u) → W p l e R s m args below meth c H1 locs1 (cells + rm.cells) (slots + rm.slots) Q (F0 m (pc + 3) ls (.int r1 :: rest))) : W p l e R s m args below meth c H locs cells slots Q (F0 m pc ls st0) := by
  have hF := m_free E G isC hC
  refine va_calli (va_runS (As := As) (rest := rest) (n := n) (nL := nL) (Ts := cw) ⟨E.1, E.2.1, E.2.2.1, E.2.2.2.1, E.2.2.2.2.1⟩ (hM H.size) ⟨m_callB E n hcode hini hlk hd hRm, E.2.2.2.2.1 _ hin⟩ ⟨mPre_blind, m_pre E G isC hnC hC⟩ rfl hn hl.1 hst (lv_room hw) hdg hf) G.2.2 (fun q _ h => hF q h) hF (fun r1 u t H1 locs1 ht hvm hp hB hz1 hk1 hS1 => ?_)
  obtain ⟨hP1, hD1⟩ := hB
  rw [ht] at hP1
  obtain ⟨hP2, hD2⟩ := va_join (wr := wr) (w1 := w2 u) G.1 G.2.1 isC isR hC hR hnR hdis hk1 hF hP1 hD1
  exact kk r1 u H1 locs1 hp ⟨hP2, hD2, hS1⟩
/-- invokespecial of a constructor: of a nest mate (private), and of another class -/
theorem m_in {S : Type} {y : MethodName} {rm : Room} {wc wr : va_W} {b : Nat} {As : List Value} {post : S → Prop} {w2 : S → va_W} {st0 : List Value} {lvs : List (Nat × Value)} {host : String} (E : mE p s m meth c cc args nL own D K A) (G : mG D A s H locs ws) (hl : lv_has ls nL lvs) (hM : mV l y bytes maxL rm D K wc (.ref b :: As) post w2) (isC isR : List Nat) (hC : isC.map (fun i => ws[i]?) = wc.map some) (hR : isR.map (fun i => ws[i]?) = wr.map some) (hnC : va_nd isC = true) (hnR : va_nd isR = true) (hdis : ∀ i ∈ isR, i ∉ isC)
    (n : Nat) (hn : As.length = n) (hnm : y.name = "<init>") (hcode : Cond.code y bytes maxL none ∈ cw) (hini : Cond.initialized y.cls ∈ cw) (hlk : Cond.methodLinkNest own index y host ∈ cw) (hin : Cond.instanceMethod y ∈ cw) (hd : y.cls ≠ "java/lang/invoke/MethodHandle" ∧ y.cls ≠ "java/lang/invoke/VarHandle" ∧ (parseMethodDescriptor y.desc).map (fun d => d.parameters.length) = some n) (hRm : rm.frames + 1 ≤ R.frames ∧ 8 + (maxL + 11) + rm.locals ≤ R.locals)
    (hst : st0 = As.reverse ++ .ref b :: rest) (hw : (rest.map fun v => v.category).sum ≤ 8) (hf : cells + rm.cells ≤ R.cells ∧ slots + rm.slots ≤ R.slots) (hdg : decode cc pc = .ok (.invokespecial index, 3))
    (kk : ∀ (u : S) (H1 : Heap) (locs1 : List Loc), post u → mG D A s H1 locs1 (wr ++ w2 u) → W p l e R s m args below meth c H1 locs1 (cells + rm.cells) (slots + rm.slots) Q (F0 m (pc + 3) ls rest)) : W p l e R s m args below meth c H locs cells slots Q (F0 m pc ls st0) := by
  have hF := m_free E G isC hC
  refine va_callv (va_runIN (As := As) (rest := rest) (n := n) (nL := nL) (Ts := cw) ⟨E.1, E.2.1, E.2.2.1, E.2.2.2.1, E.2.2.2.2.1⟩ (hM H.size) ⟨m_callN (host := host) E n hcode hini hlk hd hRm, hnm, E.2.2.2.2.1 _ hin⟩ ⟨mPre_blind, m_pre E G isC hnC hC⟩ rfl hn hl.1 hst (lv_room hw) hdg hf) G.2.2 (fun q _ h => hF q h) hF (fun u t H1 locs1 ht hvm hp hB hz1 hk1 hS1 => ?_)
  obtain ⟨hP1, hD1⟩ := hB
  rw [ht] at hP1
  obtain ⟨hP2, hD2⟩ := va_join (wr := wr) (w1 := w2 u) G.1 G.2.1 isC isR hC hR hnR hdis hk1 hF hP1 hD1
  exact kk u H1 locs1 hp ⟨hP2, hD2, hS1⟩
theorem m_ii {S : Type} {y : MethodName} {rm : Room} {wc wr : va_W} {b : Nat} {As : List Value} {post : S → Prop} {w2 : S → va_W} {st0 : List Value} {lvs : List (Nat × Value)} (E : mE p s m meth c cc args nL own D K A) (G : mG D A s H locs ws) (hl : lv_has ls nL lvs) (hM : mV l y bytes maxL rm D K wc (.ref b :: As) post w2) (isC isR : List Nat) (hC : isC.map (fun i => ws[i]?) = wc.map some) (hR : isR.map (fun i => ws[i]?) = wr.map some) (hnC : va_nd isC = true) (hnR : va_nd isR = true) (hdis : ∀ i ∈ isR, i ∉ isC)
    (n : Nat) (hn : As.length = n) (hnm : y.name = "<init>") (hcode : Cond.code y bytes maxL none ∈ cw) (hini : Cond.initialized y.cls ∈ cw) (hlk : Cond.methodLink own index y ∈ cw) (hin : Cond.instanceMethod y ∈ cw) (hd : y.cls ≠ "java/lang/invoke/MethodHandle" ∧ y.cls ≠ "java/lang/invoke/VarHandle" ∧ (parseMethodDescriptor y.desc).map (fun d => d.parameters.length) = some n) (hRm : rm.frames + 1 ≤ R.frames ∧ 8 + (maxL + 11) + rm.locals ≤ R.locals)
    (hst : st0 = As.reverse ++ .ref b :: rest) (hw : (rest.map fun v => v.category).sum ≤ 8) (hf : cells + rm.cells ≤ R.cells ∧ slots + rm.slots ≤ R.slots) (hdg : decode cc pc = .ok (.invokespecial index, 3))
    (kk : ∀ (u : S) (H1 : Heap) (locs1 : List Loc), post u → mG D A s H1 locs1 (wr ++ w2 u) → W p l e R s m args below meth c H1 locs1 (cells + rm.cells) (slots + rm.slots) Q (F0 m (pc + 3) ls rest)) : W p l e R s m args below meth c H locs cells slots Q (F0 m pc ls st0) := by
  have hF := m_free E G isC hC
  refine va_callv (va_runI (As := As) (rest := rest) (n := n) (nL := nL) (Ts := cw) ⟨E.1, E.2.1, E.2.2.1, E.2.2.2.1, E.2.2.2.2.1⟩ (hM H.size) ⟨m_callB E n hcode hini hlk hd hRm, hnm, E.2.2.2.2.1 _ hin⟩ ⟨mPre_blind, m_pre E G isC hnC hC⟩ rfl hn hl.1 hst (lv_room hw) hdg hf) G.2.2 (fun q _ h => hF q h) hF (fun u t H1 locs1 ht hvm hp hB hz1 hk1 hS1 => ?_)
  obtain ⟨hP1, hD1⟩ := hB
  rw [ht] at hP1
  obtain ⟨hP2, hD2⟩ := va_join (wr := wr) (w1 := w2 u) G.1 G.2.1 isC isR hC hR hnR hdis hk1 hF hP1 hD1
  exact kk u H1 locs1 hp ⟨hP2, hD2, hS1⟩
/-- the ends -/
theorem m_reti {S : Type} {post : Int32 → S → Prop} {w2 : S → va_W} {mc ms : Nat} {v : Int32} {ty : FieldType} (E : mE p s m meth c cc args nL own D K A) (G : mG D A s H locs ws) (hr : meth.sig.returnType = some ty) (hn : narrow ty (.int v) = .int v) (u : S) (hp : post v u) (is : List Nat) (hnd : va_nd is = true) (hs : is.map (fun i => ws[i]?) = (w2 u).map some) (h1 : cells ≤ mc) (h2 : slots ≤ ms) (hdg : decode cc pc = .ok (.ireturn, 1)) :
    W p l e R s m args below meth c H locs cells slots (MQ below (va_Qi post (mB D A w2) A) args s mc ms A) (F0 m pc ls [.int v]) := by
  have G9 := G.sub (ws' := w2 u) is hnd hs
  refine W.widen (k := mc) (n := ms) h1 h2 ?_
  exact W.zret E.1 E.2.1 hr hn (fun t ht hW => ⟨⟨v, u, rfl, hp, by rw [ht]; exact G9.1, G9.2.1⟩, G9.2.2.F ht⟩) G9.2.2.2.2 hdg E.2.2.2.2.2.2.2.1
theorem m_retv {S : Type} {post : S → Prop} {w2 : S → va_W} {mc ms : Nat} (E : mE p s m meth c cc args nL own D K A) (G : mG D A s H locs ws) (hr : meth.sig.returnType = none) (u : S) (hp : post u) (is : List Nat) (hnd : va_nd is = true) (hs : is.map (fun i => ws[i]?) = (w2 u).map some) (h1 : cells ≤ mc) (h2 : slots ≤ ms) (hdg : decode cc pc = .ok (.return_, 1)) :
    W p l e R s m args below meth c H locs cells slots (MQ below (va_Qv post (mB D A w2) A) args s mc ms A) (F0 m pc ls []) := by
  have G9 := G.sub (ws' := w2 u) is hnd hs
  refine W.widen (k := mc) (n := ms) h1 h2 ?_
  exact W.vret E.1 E.2.1 hr (fun t ht hW => ⟨⟨u, rfl, hp, by rw [ht]; exact G9.1, G9.2.1⟩, G9.2.2.F ht⟩) G9.2.2.2.2 hdg E.2.2.2.2.2.2.2.1
theorem m_copyi (E : mE p s m meth c cc args nL own D K A) (G : mG D A s H locs ws) {lvs : List (Nat × Value)} (hl : lv_has ls nL lvs) (hlk : Cond.methodLink own index arraycopyName ∈ cw) (q0 q1 : Nat) {a0 n0 n1 : Nat} {f g : Nat → Int32} (ha0 : ws[q0]? = some (a0, .inl (K 0, n0, .inl f))) (ha1 : ws[q1]? = some (a, .inl (K 0, n1, .inl g))) {sp dp n : Int32} (h1 : ¬ sp < 0) (h2 : ¬ dp < 0) (h3 : ¬ n < 0) (h4 : sp.toNatClampNeg + n.toNatClampNeg ≤ n0) (h5 : dp.toNatClampNeg + n.toNatClampNeg ≤ n1) (hframes : 1 ≤ R.frames) (hw : (rest.map fun v => v.category).sum ≤ 8) (hlocals : 26 ≤ R.locals) (hdg : decode cc pc = .ok (.invokestatic index, 3))
    (kk : ∀ (H1 : Heap) (locs1 : List Loc), mG D A s H1 locs1 (ws.set q1 (a, .inl (K 0, n1, .inl (va_cpy f g sp.toNatClampNeg dp.toNatClampNeg n.toNatClampNeg)))) → W p l e R s m args below meth c H1 locs1 cells slots Q (F0 m (pc + 3) ls rest)) : W p l e R s m args below meth c H locs cells slots Q (F0 m pc ls (.int n :: .int dp :: .ref a :: .int sp :: .ref a0 :: rest)) :=
  va_copyi E.1 E.2.1 (E.2.2.1.trans hl.1.symm) E.2.2.2.1 (E.2.2.2.2.1 _ hlk) (E.2.2.2.2.1 _ mw_cpNat) (E.2.2.2.2.1 _ mw_cpSt) (E.2.2.2.2.1 _ mw_cpIni) E.2.2.2.2.2.1 G.1 G.2.1 G.2.2 q0 q1 0 0 ha0 ha1 rfl rfl rfl h1 h2 h3 h4 h5 (fun _ _ => rfl) hframes (Nat.le_trans (Nat.add_le_add_right hw _) hlocals) hdg (fun H1 l1 a1 a2 a3 => kk H1 l1 ⟨a1, a2, a3⟩)
end MY
theorem z_shr (k : Int32) : (0 : Int32) >>> k = 0 := by simp
/-- the answers of a new object, where they depend on the arguments -/
def ans_end (n : Int32) : Int32 := if n = 0 then 0 else -1
theorem ans_end_1 {n : Int32} (h : n < 0) : -1 = ans_end n := by
  unfold ans_end
  rw [if_neg (fun e => by subst e; exact absurd h (by decide))]
theorem ans_end_2 {n : Int32} (h : 0 < n) : -1 = ans_end n := by
  unfold ans_end
  rw [if_neg (fun e => by subst e; exact absurd h (by decide))]
theorem ans_end_3 {n : Int32} (h1 : ¬ n < 0) (h2 : ¬ 0 < n) : n = ans_end n := by
  have e := Int32.le_antisymm (Int32.not_lt.mp h2) (Int32.not_lt.mp h1)
  subst e
  rfl
def ans_force (n : Int32) : Int32 := if n = -1 then -1 else -2
theorem ans_force_1 {n : Int32} (h : n < -1) : -2 = ans_force n := by
  unfold ans_force
  rw [if_neg (fun e => by subst e; exact absurd h (by decide))]
theorem ans_force_2 {n : Int32} (h : 0 ≤ n) : -2 = ans_force n := by
  unfold ans_force
  rw [if_neg (fun e => by subst e; exact absurd h (by decide))]
theorem ans_force_3 {n : Int32} (h1 : ¬ n < -1) (h2 : ¬ 0 ≤ n) : -1 = ans_force n := by
  have e : n = -1 := by
    rw [Int32.lt_iff_toInt_lt] at h1
    rw [Int32.le_iff_toInt_le] at h2
    apply Int32.toInt_inj.mp
    have e1 : (-1 : Int32).toInt = -1 := by decide
    have e2 : (0 : Int32).toInt = 0 := by decide
    omega
  subst e
  rfl
theorem ans_force_4 {n : Int32} (h : n = -1) : -1 = ans_force n := by subst h; rfl
theorem ans_force_5 {n : Int32} (h : ¬ n = -1) : -2 = ans_force n := by unfold ans_force; rw [if_neg h]
def ans_note (n : Int32) : Int32 := if n = -1 then 0 else -2
theorem ans_note_1 {n : Int32} (h : n = -1) : 0 = ans_note n := by subst h; rfl
theorem ans_note_2 {n : Int32} (h : ¬ n = -1) : -2 = ans_note n := by unfold ans_note; rw [if_neg h]
def ans_seed (n : Int32) : Int32 := if n < 0 then -1 else 0
theorem ans_seed_1 {n : Int32} (h : n < 0) : -1 = ans_seed n := by unfold ans_seed; rw [if_pos h]
theorem ans_seed_2 {n : Int32} (h : ¬ n < 0) : 0 = ans_seed n := by unfold ans_seed; rw [if_neg h]
def ans_count (n : Int32) : Int32 := if n.toInt < 0 ∨ 13 < n.toInt then -1 else if n = 5 then -1 else 0
theorem ans_count_1 {n : Int32} (h : n.toInt < 0 ∨ 13 < n.toInt) : -1 = ans_count n := by unfold ans_count; rw [if_pos h]
theorem lgc_lt {x y : Int64} : lg_cmp x y < 0 ↔ x < y := by
  unfold lg_cmp
  by_cases h1 : x > y
  · rw [if_pos h1]
    exact ⟨fun h => absurd h (by decide), fun h => absurd (Int64.lt_trans h h1) (Int64.lt_irrefl)⟩
  · rw [if_neg h1]
    by_cases h2 : x = y
    · rw [if_pos h2]
      exact ⟨fun h => absurd h (by decide), fun h => absurd (h2 ▸ h) (Int64.lt_irrefl)⟩
    · rw [if_neg h2]
      exact ⟨fun _ => Int64.lt_of_le_of_ne (Int64.not_lt.mp h1) h2, fun _ => by decide⟩
theorem lgc_gt {x y : Int64} : 0 < lg_cmp x y ↔ y < x := by
  unfold lg_cmp
  by_cases h1 : x > y
  · rw [if_pos h1]
    exact ⟨fun _ => h1, fun _ => by decide⟩
  · rw [if_neg h1]
    by_cases h2 : x = y
    · rw [if_pos h2]
      exact ⟨fun h => absurd h (by decide), fun h => absurd h h1⟩
    · rw [if_neg h2]
      exact ⟨fun h => absurd h (by decide), fun h => absurd h h1⟩
def ans_in (v a b : Int64) : Int32 := if v < a then 0 else if b < v then 0 else 1
theorem ans_in_1 {v a b : Int64} (h : lg_cmp v a < 0) : 0 = ans_in v a b := by unfold ans_in; rw [if_pos (lgc_lt.mp h)]
theorem ans_in_2 {v a b : Int64} (h1 : ¬ lg_cmp v a < 0) (h2 : 0 < lg_cmp v b) : 0 = ans_in v a b := by unfold ans_in; rw [if_neg (fun h => h1 (lgc_lt.mpr h)), if_pos (lgc_gt.mp h2)]
theorem ans_in_3 {v a b : Int64} (h1 : ¬ lg_cmp v a < 0) (h2 : ¬ 0 < lg_cmp v b) : 1 = ans_in v a b := by unfold ans_in; rw [if_neg (fun h => h1 (lgc_lt.mpr h)), if_neg (fun h => h2 (lgc_gt.mpr h))]
