/-! what holds between two calls -/
def JJ (z : TS) : Prop := Ok z ∧ WFc z ∧ tI z 56 4 = tI z 386 22 ∧ ∀ k : Int32, iv 0 3 k → (((tI z 0 9 >>> (k &&& 31)) &&& 1) = 0 ↔ tA z 408 k.toNatClampNeg = 0) ∧ (¬ tA z 408 k.toNatClampNeg = 0 → tI z (81 + 1 + qst 38 * k.toNatClampNeg) 4 = tA z 407 k.toNatClampNeg)
theorem im_ro {k : Int32} (h : iv 0 3 k) : ro (81 + 1 + qst 38 * k.toNatClampNeg) = 2 := at_ro (i := 0) (images_at _ (clamp_lt h (by decide) (by decide))) (by decide)
theorem JJ.c {z u : TS} (j : JJ z) (o : Ok u) (k : KC z u) : JJ u := by
  obtain ⟨j1, j2, j3, j4⟩ := j
  refine ⟨o, wf_c j2 k, ?_, fun i hi => ?_⟩
  · rw [k.1 56 4 rfl, k.1 386 22 rfl]; exact j3
  · rw [k.1 0 9 rfl, (k.2.1 408 rfl).1, (k.2.1 407 rfl).1, k.1 _ 4 (by rw [im_ro hi]; rfl)]
    exact j4 i hi
theorem JJ.r {z u : TS} (j : JJ z) (o : Ok u) (k : KR z u) (wf : WFc u) : JJ u := by
  obtain ⟨j1, j2, j3, j4⟩ := j
  refine ⟨o, wf, ?_, fun i hi => ?_⟩
  · rw [k.1 56 4 rfl, k.1 386 22 rfl]; exact j3
  · rw [k.1 0 9 rfl, (k.2.1 408 rfl).1, (k.2.1 407 rfl).1, k.1 _ 4 (by rw [im_ro hi]; rfl)]
    exact j4 i hi
theorem JJ.seed {z u w : TS} {x : Int32} (j : JJ z) (k : KXp z 56 x u) (o : Ok w) (e : w = setI u 386 22 x) : JJ w := by
  obtain ⟨j1, j2, j3, j4⟩ := j
  have wu : WFc u := wf_ka j2 k.2.1 rfl rfl rfl rfl
  subst e
  refine ⟨o, wu, ?_, fun i hi => ?_⟩
  · rw [sI_self, sI_j (w := x) k.2.2.2 (by decide)]
  · have n0 : 81 + 1 + qst 38 * i.toNatClampNeg ≠ 386 := fun q => by have := im_ro hi; rw [q] at this; exact absurd this (by decide)
    have n1 : 81 + 1 + qst 38 * i.toNatClampNeg ≠ 56 := by
      have : qst 38 = 25 := rfl
      omega
    rw [sI_j (z := u) (w := tI z 0 9) (k.1 0 9 rfl (by omega)) (by decide), sI_j (z := u) (w := tI z (81 + 1 + qst 38 * i.toNatClampNeg) 4) (k.1 _ 4 (by rw [im_ro hi]; rfl) (fun q => n1 q.1)) n0]
    show (_ ↔ tA u 408 _ = 0) ∧ (¬ tA u 408 _ = 0 → _ = tA u 407 _)
    rw [(k.2.1 408 rfl).1, (k.2.1 407 rfl).1]
    exact j4 i hi
theorem sd_eq {z u : TS} {x : Int32} (j : JJ z) (k : KXp z 56 x u) : tI z 56 4 = tI u 386 22 := by
  rw [k.1 386 22 rfl (by omega)]; exact j.2.2.1
theorem or_and_d {a b c : Int32} : (a ||| b) &&& c = (a &&& c) ||| (b &&& c) := by
  apply Int32.toBitVec_inj.mp
  rw [Int32.toBitVec_and, Int32.toBitVec_or, Int32.toBitVec_or, Int32.toBitVec_and, Int32.toBitVec_and]
  ext i hi
  rw [BitVec.getElem_and, BitVec.getElem_or, BitVec.getElem_or, BitVec.getElem_and, BitVec.getElem_and]
  exact Bool.and_or_distrib_right _ _ _
theorem or_bit (a b s : Int32) : ((a ||| b) >>> s) &&& 1 = ((a >>> s) &&& 1) ||| ((b >>> s) &&& 1) := by
  rw [Int32.shiftRight_or, or_and_d]
theorem or_and1 (x : Int32) : (x &&& 1) ||| 1 = 1 := by
  have h : iv 0 1 (x &&& 1) := iv_and1 x
  have h1 := h.1
  have h2 := h.2
  have e := Int32.ofInt_toInt (x &&& 1)
  rcases (show (x &&& 1).toInt = 0 ∨ (x &&& 1).toInt = 1 by omega) with q | q <;> (rw [q] at e; rw [← e]; decide)
theorem or_1 {x : Int32} : ¬ (x ||| 1) = 0 := fun h => by
  have e : (x ||| 1) &&& 1 = 1 := by rw [or_and_d, show (1 : Int32) &&& 1 = 1 by decide]; exact or_and1 x
  rw [h] at e
  exact absurd e (by decide)
theorem four_of {x : Int32} (h : iv 0 3 x) : x = 0 ∨ x = 1 ∨ x = 2 ∨ x = 3 := by
  have h1 := h.1
  have h2 := h.2
  have e := Int32.ofInt_toInt x
  rcases (show x.toInt = 0 ∨ x.toInt = 1 ∨ x.toInt = 2 ∨ x.toInt = 3 by omega) with q | q | q | q <;> (rw [q] at e; subst e; decide)
theorem bit_up (o : Int32) {x k : Int32} (hx : iv 0 3 x) (hk : iv 0 3 k) : (x = k → ¬ (((o ||| ((1 : Int32) <<< (x &&& 31))) >>> (k &&& 31)) &&& 1) = 0) ∧ (¬ x = k → ((o ||| ((1 : Int32) <<< (x &&& 31))) >>> (k &&& 31)) &&& 1 = (o >>> (k &&& 31)) &&& 1) := by
  rw [or_bit]
  rcases four_of hx with rfl | rfl | rfl | rfl <;> rcases four_of hk with rfl | rfl | rfl | rfl <;> refine ⟨fun h => ?_, fun h => ?_⟩ <;>
    first
      | exact absurd h (by decide)
      | exact absurd rfl h
      | (rw [show ((((1 : Int32) <<< _) >>> _) &&& 1 : Int32) = 1 by decide]; exact or_1)
      | (rw [show ((((1 : Int32) <<< _) >>> _) &&& 1 : Int32) = 0 by decide]; exact Int32.or_zero)
theorem JJ.image {z u w : TS} {x : Int32} (hx : iv 0 3 x) (j : JJ z) (k : KXi z (81 + 1 + qst 38 * x.toNatClampNeg) (tI z 56 4) (tI z 0 9 ||| ((1 : Int32) <<< (x &&& 31))) u) (o : Ok w) (q : KV u w) (e8 : tA w 408 = upd (tA u 408) x.toNatClampNeg 1) (e7 : tA w 407 = upd (tA u 407) x.toNatClampNeg (tI u 386 22)) : JJ w := by
  obtain ⟨j1, j2, j3, j4⟩ := j
  obtain ⟨k1, k2, k3, k4, k5⟩ := k
  have q25 : qst 38 = 25 := rfl
  have wu : WFc w := wf_ka (wf_ka j2 k2 rfl rfl rfl rfl) q.2.1 rfl rfl rfl rfl
  have x56 : tI w 56 4 = tI z 56 4 := (q.1 56 4 rfl).trans (k1 56 4 rfl (by omega) (by omega))
  have x386 : tI w 386 22 = tI z 386 22 := (q.1 386 22 rfl).trans (k1 386 22 rfl (by omega) (by omega))
  have u386 : tI u 386 22 = tI z 386 22 := k1 386 22 rfl (by omega) (by omega)
  refine ⟨o, wu, by rw [x56, x386]; exact j3, fun i hi => ?_⟩
  have b := bit_up (tI z 0 9) hx hi
  have nx := iv_nat hx (by decide)
  have ni := iv_nat hi (by decide)
  rw [q.1 0 9 rfl, k5, e8, e7, q.1 _ 4 rfl]
  by_cases h : x = i
  · subst h
    have u1 : upd (tA u 408) x.toNatClampNeg 1 x.toNatClampNeg = 1 := by unfold upd; rw [if_pos rfl]
    have u2 : upd (tA u 407) x.toNatClampNeg (tI u 386 22) x.toNatClampNeg = tI u 386 22 := by unfold upd; rw [if_pos rfl]
    rw [u1, u2, k4, u386]
    exact ⟨⟨fun w => absurd w (b.1 rfl), fun w => absurd w (by decide)⟩, fun _ => j3⟩
  · have hn : i.toNatClampNeg ≠ x.toNatClampNeg := fun w => h (Int32.toInt_inj.mp (by omega))
    have u1 : upd (tA u 408) x.toNatClampNeg 1 i.toNatClampNeg = tA u 408 i.toNatClampNeg := by unfold upd; rw [if_neg hn]
    have u2 : upd (tA u 407) x.toNatClampNeg (tI u 386 22) i.toNatClampNeg = tA u 407 i.toNatClampNeg := by unfold upd; rw [if_neg hn]
    rw [u1, u2, b.2 h, (k2 408 rfl).1, (k2 407 rfl).1, k1 _ 4 (by rw [im_ro hi]; rfl) (fun w => hn (by have := w.1; rw [q25] at this; omega)) (fun w => by have := w.1; omega)]
    exact j4 i hi
theorem JJ.back {z u w : TS} {x : Int32} (hx : iv 0 3 x) (hm : ¬ tA z 408 x.toNatClampNeg = 0) (j : JJ z) (k : KXp z 56 (tI z (81 + 1 + qst 38 * x.toNatClampNeg) 4) u) (o : Ok w) (q : KB u w) (e : tI w 386 22 = tA u 407 x.toNatClampNeg) : JJ w := by
  obtain ⟨j1, j2, j3, j4⟩ := j
  obtain ⟨k1, k2, k3, k4⟩ := k
  have q25 : qst 38 = 25 := rfl
  have wu : WFc w := wf_ka (wf_ka j2 k2 rfl rfl rfl rfl) q.2.1 rfl rfl rfl rfl
  refine ⟨o, wu, ?_, fun i hi => ?_⟩
  · rw [q.1 56 4 rfl, k4, e, (k2 407 rfl).1]; exact (j4 x hx).2 hm
  · rw [q.1 0 9 rfl, k1 0 9 rfl (by omega), (q.2.1 408 rfl).1, (q.2.1 407 rfl).1, (k2 408 rfl).1, (k2 407 rfl).1, q.1 _ 4 (by rw [im_ro hi]; rfl), k1 _ 4 (by rw [im_ro hi]; rfl) (fun w => by have := w.1; omega)]
    exact j4 i hi
section LV
variable {p : Program} {l : Launch} {e : Env} {R : Room} {s : State} {m : MethodId} {args : Array Value} {below : List Frame} {meth : Method} {c : Code} {H : Heap} {locs : List Loc} {Q : State → Prop}
variable {cc bytes : ByteArray} {nL maxL pc index cells slots : Nat} {ls : Array Slot} {rest : List Value} {D : va_G} {K : Nat → ClassId} {A : Nat → Prop} {own : String} {ad : Nat → Nat} {z : TS} {j : Nat}
theorem l_vi {y : MethodName} {ret : FieldType} {rm : Room} {As : List Value} {post : Int32 → TS → Prop} {st0 : List Value} {lvs : List (Nat × Value)} (E : mE p s m meth c cc args nL own D K A) (G : mG D A s H locs (wd K ad z)) (hl : lv_has ls nL lvs) (hM : cI l y bytes maxL ret rm D K ad z (.ref (ad j) :: As) post)
    (ci : Nat) (hj : ro j = ci) (h12 : ci < 12) {r : vw_C} (hc : classes[ci]? = some r) (hy : r.1 = y.cls) (n : Nat) (hn : As.length = n) (hcode : Cond.code y bytes maxL (some ret) ∈ cw) (hini : Cond.initialized y.cls ∈ cw) (hlk : Cond.methodLink own index y ∈ cw) (hin : Cond.instanceMethod y ∈ cw) (hsel : Cond.selects y.cls y y ∈ cw) (hd : y.cls ≠ "java/lang/invoke/MethodHandle" ∧ y.cls ≠ "java/lang/invoke/VarHandle" ∧ (parseMethodDescriptor y.desc).map (fun d => d.parameters.length) = some n) (hRm : rm.frames + 1 ≤ R.frames ∧ 8 + (maxL + 11) + rm.locals ≤ R.locals) (hz1 : rm.cells = 0) (hz2 : rm.slots = 0) (hf : cells ≤ R.cells ∧ slots ≤ R.slots)
    (hst : st0 = As.reverse ++ .ref (ad j) :: rest) (hw : (rest.map fun v => v.category).sum ≤ 8) (hdg : decode cc pc = .ok (.invokevirtual index, 3))
    (kk : ∀ (r1 : Int32) (u : TS) (H1 : Heap) (locs1 : List Loc), post r1 u → mG D A s H1 locs1 (wd K ad u) → W p l e R s m args below meth c H1 locs1 cells slots Q (F0 m (pc + 3) ls (.int r1 :: rest))) : W p l e R s m args below meth c H locs cells slots Q (F0 m pc ls st0) := by
  refine m_vi (wr := []) E G hl hM (List.range 409) [] rng_wd rfl rng_nd rfl (by simp) j (ci := ci) (by rw [wd_at (ro_lt hj (by omega)), cell_obj hj h12]) hc hy n hn hcode hini hlk hin hsel hd hRm hst hw ⟨by rw [hz1]; exact hf.1, by rw [hz2]; exact hf.2⟩ hdg (fun r1 u H1 l1 hp G1 => ?_)
  rw [hz1, hz2]
  exact kk r1 u H1 l1 hp G1
end LV
theorem law_in {v : Int32} {L : Nat} (h0 : 0 ≤ v.toInt) (h : v.toInt + 6 ≤ (L : Int)) (hL : L ≤ 3072) (k : Int32) (hk : iv 0 5 k) : vp_in (v + k) L := by
  obtain ⟨k1, k2⟩ := hk
  have e : (v + k).toInt = v.toInt + k.toInt := ti_add (by omega) (by omega)
  exact vp_in_iff.mpr ⟨by omega, by omega⟩
