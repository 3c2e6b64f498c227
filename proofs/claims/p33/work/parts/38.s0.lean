section TSTR
variable {p : Program} {l : Launch} {e : Env} {R : Room} {s : State} {m : MethodId} {args : Array Value} {below : List Frame} {meth : Method} {c : Code} {H : Heap} {locs : List Loc} {Q : State → Prop}
variable {cc bytes : ByteArray} {nL maxL pc index : Nat} {ls : Array Slot} {rest : List Value} {D : va_G} {K : Nat → ClassId} {A : Nat → Prop} {own : String} {ad : Nat → Nat} {z : TS}
theorem t_ldcW (E : mE p s m meth c cc args nL "LureTown$Tape" D K A) (hdg : decode cc pc = .ok (.ldc 50, 2)) (kk : W p l e R s m args below meth c H locs 0 0 Q (F0 m (pc + 2) ls (.ref (kS K 0) :: rest))) : W p l e R s m args below meth c H locs 0 0 Q (F0 m pc ls rest) :=
  va_ldcS E.1 E.2.1 E.2.2.2.1 E.2.2.2.2.2.2.2.2.2.1 hdg kk
theorem t_ldcG (E : mE p s m meth c cc args nL "LureTown$Tape" D K A) (hdg : decode cc pc = .ok (.ldc 65, 2)) (kk : W p l e R s m args below meth c H locs 0 0 Q (F0 m (pc + 2) ls (.ref (kS K 1) :: rest))) : W p l e R s m args below meth c H locs 0 0 Q (F0 m pc ls rest) :=
  va_ldcS E.1 E.2.1 E.2.2.2.1 E.2.2.2.2.2.2.2.2.2.2.1 hdg kk
theorem t_sval (E : mE p s m meth c cc args nL own D K A) (G : mG D A s H locs (wd K ad z)) (i : Nat) (hi : i < 2) (hl : Cond.fieldLink own index "java/lang/String" "value" "[B" ∈ cw) (hdg : decode cc pc = .ok (.getfield index, 3)) (kk : W p l e R s m args below meth c H locs 0 0 Q (F0 m (pc + 3) ls (.ref (kV K i) :: rest))) : W p l e R s m args below meth c H locs 0 0 Q (F0 m pc ls (.ref (kS K i) :: rest)) :=
  vk_getf E.1 E.2.1 (E.2.2.2.2.2.2.2.2.1.1 i hi).2.2.1 G.2.2 E.2.2.2.1 (E.2.2.2.2.1 _ hl) (fun _ h => h) hdg kk
theorem t_scod (E : mE p s m meth c cc args nL own D K A) (G : mG D A s H locs (wd K ad z)) (i : Nat) (hi : i < 2) (hl : Cond.fieldLink own index "java/lang/String" "coder" "B" ∈ cw) (hdg : decode cc pc = .ok (.getfield index, 3)) (kk : W p l e R s m args below meth c H locs 0 0 Q (F0 m (pc + 3) ls (.int 0 :: rest))) : W p l e R s m args below meth c H locs 0 0 Q (F0 m pc ls (.ref (kS K i) :: rest)) :=
  vk_getf E.1 E.2.1 (E.2.2.2.2.2.2.2.2.1.1 i hi).2.1 G.2.2 E.2.2.2.1 (E.2.2.2.2.1 _ hl) (fun _ h => h) hdg kk
theorem t_sbyt (E : mE p s m meth c cc args nL own D K A) (G : mG D A s H locs (wd K ad z)) (i : Nat) (hi : i < 2) {n : Nat} (hn : sLen.getD i 0 = n) {j : Int32} (hin : vp_in j n) (hdg : decode cc pc = .ok (.baload, 1)) (kk : W p l e R s m args below meth c H locs 0 0 Q (F0 m (pc + 1) ls (.int ((sByt.getD i []).getD j.toNatClampNeg 0) :: rest))) : W p l e R s m args below meth c H locs 0 0 Q (F0 m pc ls (.int j :: .ref (kV K i) :: rest)) :=
  va_tb E.1 E.2.1 (E.2.2.2.2.2.2.2.2.1.1 i hi).2.2.2 G.2.2 (by rw [hn]; exact hin) rfl hdg kk
theorem t_slen (E : mE p s m meth c cc args nL own D K A) (G : mG D A s H locs (wd K ad z)) (i : Nat) (hi : i < 2) {v : Int32} (hv : Int32.ofNat (sLen.getD i 0) = v) (hdg : decode cc pc = .ok (.arraylength, 1)) (kk : W p l e R s m args below meth c H locs 0 0 Q (F0 m (pc + 1) ls (.int v :: rest))) : W p l e R s m args below meth c H locs 0 0 Q (F0 m pc ls (.ref (kV K i) :: rest)) :=
  va_tlen E.1 E.2.1 (E.2.2.2.2.2.2.2.2.1.1 i hi).2.2.2 G.2.2 hv hdg kk
theorem t_getC (E : mE p s m meth c cc args nL own D K A) (G : mG D A s H locs (wd K ad z)) (hl : Cond.fieldLink own index "java/lang/String" "COMPACT_STRINGS" "Z" ∈ cw) (hdg : decode cc pc = .ok (.getstatic index, 3)) (kk : W p l e R s m args below meth c H locs 0 0 Q (F0 m (pc + 3) ls (.int 1 :: rest))) : W p l e R s m args below meth c H locs 0 0 Q (F0 m pc ls rest) :=
  va_gets E.1 E.2.1 E.2.2.2.2.2.2.2.2.2.2.2.1 G.2.2 E.2.2.2.1 (E.2.2.2.2.1 _ hl) (fun _ h => h) hdg kk
theorem t_getF (E : mE p s m meth c cc args nL own D K A) (G : mG D A s H locs (wd K ad z)) (hl : Cond.fieldLink own index "jdk/internal/util/Preconditions" "SIOOBE_FORMATTER" "Ljava/util/function/BiFunction;" ∈ cw) (hdg : decode cc pc = .ok (.getstatic index, 3)) (kk : W p l e R s m args below meth c H locs 0 0 Q (F0 m (pc + 3) ls (kF K :: rest))) : W p l e R s m args below meth c H locs 0 0 Q (F0 m pc ls rest) :=
  va_gets E.1 E.2.1 E.2.2.2.2.2.2.2.2.2.2.2.2 G.2.2 E.2.2.2.1 (E.2.2.2.2.1 _ hl) (fun _ h => h) hdg kk
/-- a String's own method, an int answer -/
theorem t_svi {y : MethodName} {ret : FieldType} {rm : Room} {As : List Value} {post : Int32 → TS → Prop} {st0 : List Value} {lvs : List (Nat × Value)} (E : mE p s m meth c cc args nL own D K A) (G : mG D A s H locs (wd K ad z)) (hl : lv_has ls nL lvs) (i : Nat) (hi : i < 2) (hM : cI l y bytes maxL ret rm D K ad z (.ref (kS K i) :: As) post)
    (hy : "java/lang/String" = y.cls) (n : Nat) (hn : As.length = n) (hcode : Cond.code y bytes maxL (some ret) ∈ cw) (hini : Cond.initialized y.cls ∈ cw) (hlk : Cond.methodLink own index y ∈ cw) (hin : Cond.instanceMethod y ∈ cw) (hsel : Cond.selects y.cls y y ∈ cw) (hd : y.cls ≠ "java/lang/invoke/MethodHandle" ∧ y.cls ≠ "java/lang/invoke/VarHandle" ∧ (parseMethodDescriptor y.desc).map (fun d => d.parameters.length) = some n) (hRm : rm.frames + 1 ≤ R.frames ∧ 8 + (maxL + 11) + rm.locals ≤ R.locals) (hz1 : rm.cells = 0) (hz2 : rm.slots = 0)
    (hst : st0 = As.reverse ++ .ref (kS K i) :: rest) (hw : (rest.map fun v => v.category).sum ≤ 8) (hdg : decode cc pc = .ok (.invokevirtual index, 3))
    (kk : ∀ (r1 : Int32) (u : TS) (H1 : Heap) (locs1 : List Loc), post r1 u → mG D A s H1 locs1 (wd K ad u) → W p l e R s m args below meth c H1 locs1 0 0 Q (F0 m (pc + 3) ls (.int r1 :: rest))) : W p l e R s m args below meth c H locs 0 0 Q (F0 m pc ls st0) := by
  have hF := m_free E G (List.range 409) rng_wd
  have hrec := vk_recv E.2.2.2.2.2.2.2.2.1 hi G.2.2
  rw [hy] at hrec
  refine va_calli (va_runV (As := As) (rest := rest) (n := n) (nL := nL) (C := y.cls) (Ts := cw) ⟨E.1, E.2.1, E.2.2.1, E.2.2.2.1, E.2.2.2.2.1⟩ (hM H.size) ⟨m_callB E n hcode hini hlk hd hRm, E.2.2.2.2.1 _ hin, E.2.2.2.2.1 _ hsel⟩ ⟨mPre_blind, hrec, m_pre E G (List.range 409) rng_nd rng_wd⟩ rfl hn hl.1 hst (lv_room hw) hdg ⟨by rw [hz1]; exact Nat.zero_le _, by rw [hz2]; exact Nat.zero_le _⟩) G.2.2 (fun q _ h => hF q h) hF (fun r1 u t H1 locs1 ht hvm hp hB _ hk1 hS1 => ?_)
  obtain ⟨hP1, hD1⟩ := hB
  rw [ht] at hP1
  obtain ⟨hP2, hD2⟩ := va_join (wr := []) (w1 := wd K ad u) G.1 G.2.1 (List.range 409) [] rng_wd rfl rfl (by simp) hk1 hF hP1 hD1
  rw [hz1, hz2]
  exact kk r1 u H1 locs1 hp ⟨hP2, hD2, hS1⟩
theorem t_sv {y : MethodName} {rm : Room} {As : List Value} {post : TS → Prop} {st0 : List Value} {lvs : List (Nat × Value)} (E : mE p s m meth c cc args nL own D K A) (G : mG D A s H locs (wd K ad z)) (hl : lv_has ls nL lvs) (hM : cV l y bytes maxL rm D K ad z As post)
    (n : Nat) (hn : As.length = n) (hcode : Cond.code y bytes maxL none ∈ cw) (hini : Cond.initialized y.cls ∈ cw) (hlk : Cond.methodLink own index y ∈ cw) (hin : Cond.static y ∈ cw) (hd : y.cls ≠ "java/lang/invoke/MethodHandle" ∧ y.cls ≠ "java/lang/invoke/VarHandle" ∧ (parseMethodDescriptor y.desc).map (fun d => d.parameters.length) = some n) (hRm : rm.frames + 1 ≤ R.frames ∧ 8 + (maxL + 11) + rm.locals ≤ R.locals) (hz1 : rm.cells = 0) (hz2 : rm.slots = 0)
    (hst : st0 = As.reverse ++ rest) (hw : (rest.map fun v => v.category).sum ≤ 8) (hdg : decode cc pc = .ok (.invokestatic index, 3))
    (kk : ∀ (u : TS) (H1 : Heap) (locs1 : List Loc), post u → mG D A s H1 locs1 (wd K ad u) → W p l e R s m args below meth c H1 locs1 0 0 Q (F0 m (pc + 3) ls rest)) : W p l e R s m args below meth c H locs 0 0 Q (F0 m pc ls st0) := by
  have hF := m_free E G (List.range 409) rng_wd
  refine va_callv (va_runS (As := As) (rest := rest) (n := n) (nL := nL) (Ts := cw) ⟨E.1, E.2.1, E.2.2.1, E.2.2.2.1, E.2.2.2.2.1⟩ (hM H.size) ⟨m_callB E n hcode hini hlk hd hRm, E.2.2.2.2.1 _ hin⟩ ⟨mPre_blind, m_pre E G (List.range 409) rng_nd rng_wd⟩ rfl hn hl.1 hst (lv_room hw) hdg ⟨by rw [hz1]; exact Nat.zero_le _, by rw [hz2]; exact Nat.zero_le _⟩) G.2.2 (fun q _ h => hF q h) hF (fun u t H1 locs1 ht hvm hp hB _ hk1 hS1 => ?_)
  obtain ⟨hP1, hD1⟩ := hB
  rw [ht] at hP1
  obtain ⟨hP2, hD2⟩ := va_join (wr := []) (w1 := wd K ad u) G.1 G.2.1 (List.range 409) [] rng_wd rfl rfl (by simp) hk1 hF hP1 hD1
  rw [hz1, hz2]
  exact kk u H1 locs1 hp ⟨hP2, hD2, hS1⟩
end TSTR
theorem kF_or (K : Nat → ClassId) : kF K = .null ∨ kF K = .ref (K 121) := by
  unfold kF; split
  · exact Or.inl rfl
  · exact Or.inr rfl
theorem sb_all : ∀ i : Nat, i < 2 → ∀ x ∈ sByt.getD i [], (0 : Int) ≤ x.toInt ∧ x.toInt ≤ 122 := by decide +kernel
theorem sb_iv (i : Nat) (hi : i < 2) (j : Nat) : iv 0 122 ((sByt.getD i []).getD j 0) := by
  rw [List.getD_eq_getElem?_getD]
  cases hx : (sByt.getD i [])[j]? with
  | none => exact ⟨by decide, by decide⟩
  | some x => exact sb_all i hi x (List.mem_of_getElem? hx)
theorem iv_one {c : Int} {x y : Int32} (h : iv c c x) (hy : y.toInt = c) : x = y := Int32.toInt_inj.mp (by have h1 := h.1; have h2 := h.2; omega)
