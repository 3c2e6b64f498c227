theorem mw_fl_11_90 : (Cond.fieldLink RX11 90 "LureTownModel" "wrong" "I" : Cond) ∈ cw := cw_of (List.mem_append_right _ (List.mem_append_right _ (List.mem_append_right _ (List.mem_append_right _ (List.mem_append_right _ (List.mem_append_left _ (List.mem_of_getElem? (i := 116) (by decide +kernel)))))))) (by decide +kernel)
theorem mw_fl_11_93 : (Cond.fieldLink RX11 93 "LureTownModel" "next" "I" : Cond) ∈ cw := cw_of (List.mem_append_right _ (List.mem_append_right _ (List.mem_append_right _ (List.mem_append_right _ (List.mem_append_right _ (List.mem_append_left _ (List.mem_of_getElem? (i := 115) (by decide +kernel)))))))) (by decide +kernel)
theorem dX11_fails_0 : decode cX11_fails 0 = .ok (.aload_n 0, 1) := by decide +kernel
theorem dX11_fails_1 : decode cX11_fails 1 = .ok (.getfield 90, 3) := by decide +kernel
theorem dX11_fails_4 : decode cX11_fails 4 = .ok (.ifCond .ne 15, 3) := by decide +kernel
theorem dX11_fails_7 : decode cX11_fails 7 = .ok (.aload_n 0, 1) := by decide +kernel
theorem dX11_fails_8 : decode cX11_fails 8 = .ok (.iconst 1, 1) := by decide +kernel
theorem dX11_fails_9 : decode cX11_fails 9 = .ok (.bipush 8, 2) := by decide +kernel
theorem dX11_fails_11 : decode cX11_fails 11 = .ok (.iload_n 2, 1) := by decide +kernel
theorem dX11_fails_12 : decode cX11_fails 12 = .ok (.imul, 1) := by decide +kernel
theorem dX11_fails_13 : decode cX11_fails 13 = .ok (.iadd, 1) := by decide +kernel
theorem dX11_fails_14 : decode cX11_fails 14 = .ok (.iload_n 1, 1) := by decide +kernel
theorem dX11_fails_15 : decode cX11_fails 15 = .ok (.iadd, 1) := by decide +kernel
theorem dX11_fails_16 : decode cX11_fails 16 = .ok (.putfield 90, 3) := by decide +kernel
theorem dX11_fails_19 : decode cX11_fails 19 = .ok (.iconst 0, 1) := by decide +kernel
theorem dX11_fails_20 : decode cX11_fails 20 = .ok (.ireturn, 1) := by decide +kernel
theorem dX11_isDigit_0 : decode cX11_isDigit 0 = .ok (.iload_n 1, 1) := by decide +kernel
theorem dX11_isDigit_1 : decode cX11_isDigit 1 = .ok (.aload_n 0, 1) := by decide +kernel
theorem dX11_isDigit_2 : decode cX11_isDigit 2 = .ok (.getfield 83, 3) := by decide +kernel
theorem dX11_isDigit_5 : decode cX11_isDigit 5 = .ok (.if_icmp .ge 29, 3) := by decide +kernel
theorem dX11_isDigit_8 : decode cX11_isDigit 8 = .ok (.aload_n 0, 1) := by decide +kernel
theorem dX11_isDigit_9 : decode cX11_isDigit 9 = .ok (.getfield 7, 3) := by decide +kernel
theorem dX11_isDigit_12 : decode cX11_isDigit 12 = .ok (.iload_n 1, 1) := by decide +kernel
theorem dX11_isDigit_13 : decode cX11_isDigit 13 = .ok (.baload, 1) := by decide +kernel
theorem dX11_isDigit_14 : decode cX11_isDigit 14 = .ok (.bipush 48, 2) := by decide +kernel
theorem dX11_isDigit_16 : decode cX11_isDigit 16 = .ok (.if_icmp .lt 18, 3) := by decide +kernel
theorem dX11_isDigit_19 : decode cX11_isDigit 19 = .ok (.aload_n 0, 1) := by decide +kernel
theorem dX11_isDigit_20 : decode cX11_isDigit 20 = .ok (.getfield 7, 3) := by decide +kernel
theorem dX11_isDigit_23 : decode cX11_isDigit 23 = .ok (.iload_n 1, 1) := by decide +kernel
theorem dX11_isDigit_24 : decode cX11_isDigit 24 = .ok (.baload, 1) := by decide +kernel
theorem dX11_isDigit_25 : decode cX11_isDigit 25 = .ok (.bipush 57, 2) := by decide +kernel
theorem dX11_isDigit_27 : decode cX11_isDigit 27 = .ok (.if_icmp .gt 7, 3) := by decide +kernel
theorem dX11_isDigit_30 : decode cX11_isDigit 30 = .ok (.iconst 1, 1) := by decide +kernel
theorem dX11_isDigit_31 : decode cX11_isDigit 31 = .ok (.goto 4, 3) := by decide +kernel
theorem dX11_isDigit_34 : decode cX11_isDigit 34 = .ok (.iconst 0, 1) := by decide +kernel
theorem dX11_isDigit_35 : decode cX11_isDigit 35 = .ok (.ireturn, 1) := by decide +kernel
theorem dX11_isLetter_0 : decode cX11_isLetter 0 = .ok (.iload_n 1, 1) := by decide +kernel
theorem dX11_isLetter_1 : decode cX11_isLetter 1 = .ok (.aload_n 0, 1) := by decide +kernel
theorem dX11_isLetter_2 : decode cX11_isLetter 2 = .ok (.getfield 83, 3) := by decide +kernel
theorem dX11_isLetter_5 : decode cX11_isLetter 5 = .ok (.if_icmp .ge 29, 3) := by decide +kernel
theorem dX11_isLetter_8 : decode cX11_isLetter 8 = .ok (.aload_n 0, 1) := by decide +kernel
theorem dX11_isLetter_9 : decode cX11_isLetter 9 = .ok (.getfield 7, 3) := by decide +kernel
theorem dX11_isLetter_12 : decode cX11_isLetter 12 = .ok (.iload_n 1, 1) := by decide +kernel
theorem dX11_isLetter_13 : decode cX11_isLetter 13 = .ok (.baload, 1) := by decide +kernel
theorem dX11_isLetter_14 : decode cX11_isLetter 14 = .ok (.bipush 97, 2) := by decide +kernel
theorem dX11_isLetter_16 : decode cX11_isLetter 16 = .ok (.if_icmp .lt 18, 3) := by decide +kernel
theorem dX11_isLetter_19 : decode cX11_isLetter 19 = .ok (.aload_n 0, 1) := by decide +kernel
theorem dX11_isLetter_20 : decode cX11_isLetter 20 = .ok (.getfield 7, 3) := by decide +kernel
theorem dX11_isLetter_23 : decode cX11_isLetter 23 = .ok (.iload_n 1, 1) := by decide +kernel
theorem dX11_isLetter_24 : decode cX11_isLetter 24 = .ok (.baload, 1) := by decide +kernel
theorem dX11_isLetter_25 : decode cX11_isLetter 25 = .ok (.bipush 122, 2) := by decide +kernel
theorem dX11_isLetter_27 : decode cX11_isLetter 27 = .ok (.if_icmp .gt 7, 3) := by decide +kernel
theorem dX11_isLetter_30 : decode cX11_isLetter 30 = .ok (.iconst 1, 1) := by decide +kernel
theorem dX11_isLetter_31 : decode cX11_isLetter 31 = .ok (.goto 4, 3) := by decide +kernel
theorem dX11_isLetter_34 : decode cX11_isLetter 34 = .ok (.iconst 0, 1) := by decide +kernel
theorem dX11_isLetter_35 : decode cX11_isLetter 35 = .ok (.ireturn, 1) := by decide +kernel
theorem dX11_see_0 : decode cX11_see 0 = .ok (.aload_n 0, 1) := by decide +kernel
theorem dX11_see_1 : decode cX11_see 1 = .ok (.getfield 93, 3) := by decide +kernel
theorem dX11_see_4 : decode cX11_see 4 = .ok (.aload_n 0, 1) := by decide +kernel
theorem dX11_see_5 : decode cX11_see 5 = .ok (.getfield 83, 3) := by decide +kernel
theorem dX11_see_8 : decode cX11_see 8 = .ok (.if_icmp .ge 30, 3) := by decide +kernel
theorem dX11_see_11 : decode cX11_see 11 = .ok (.aload_n 0, 1) := by decide +kernel
theorem dX11_see_12 : decode cX11_see 12 = .ok (.getfield 7, 3) := by decide +kernel
theorem dX11_see_15 : decode cX11_see 15 = .ok (.aload_n 0, 1) := by decide +kernel
theorem dX11_see_16 : decode cX11_see 16 = .ok (.getfield 93, 3) := by decide +kernel
theorem dX11_see_19 : decode cX11_see 19 = .ok (.baload, 1) := by decide +kernel
theorem dX11_see_20 : decode cX11_see 20 = .ok (.bipush 32, 2) := by decide +kernel
theorem dX11_see_22 : decode cX11_see 22 = .ok (.if_icmp .ne 16, 3) := by decide +kernel
theorem dX11_see_25 : decode cX11_see 25 = .ok (.aload_n 0, 1) := by decide +kernel
theorem dX11_see_26 : decode cX11_see 26 = .ok (.dup, 1) := by decide +kernel
theorem dX11_see_27 : decode cX11_see 27 = .ok (.getfield 93, 3) := by decide +kernel
theorem dX11_see_30 : decode cX11_see 30 = .ok (.iconst 1, 1) := by decide +kernel
theorem dX11_see_31 : decode cX11_see 31 = .ok (.iadd, 1) := by decide +kernel
theorem dX11_see_32 : decode cX11_see 32 = .ok (.putfield 93, 3) := by decide +kernel
theorem dX11_see_35 : decode cX11_see 35 = .ok (.goto (-35), 3) := by decide +kernel
theorem dX11_see_38 : decode cX11_see 38 = .ok (.aload_n 0, 1) := by decide +kernel
theorem dX11_see_39 : decode cX11_see 39 = .ok (.getfield 93, 3) := by decide +kernel
theorem dX11_see_42 : decode cX11_see 42 = .ok (.aload_n 0, 1) := by decide +kernel
theorem dX11_see_43 : decode cX11_see 43 = .ok (.getfield 83, 3) := by decide +kernel
theorem dX11_see_46 : decode cX11_see 46 = .ok (.if_icmp .ge 19, 3) := by decide +kernel
theorem dX11_see_49 : decode cX11_see 49 = .ok (.aload_n 0, 1) := by decide +kernel
theorem dX11_see_50 : decode cX11_see 50 = .ok (.getfield 7, 3) := by decide +kernel
theorem dX11_see_53 : decode cX11_see 53 = .ok (.aload_n 0, 1) := by decide +kernel
theorem dX11_see_54 : decode cX11_see 54 = .ok (.getfield 93, 3) := by decide +kernel
theorem dX11_see_57 : decode cX11_see 57 = .ok (.baload, 1) := by decide +kernel
theorem dX11_see_58 : decode cX11_see 58 = .ok (.sipush 255, 3) := by decide +kernel
theorem dX11_see_61 : decode cX11_see 61 = .ok (.iand, 1) := by decide +kernel
theorem dX11_see_62 : decode cX11_see 62 = .ok (.goto 4, 3) := by decide +kernel
theorem dX11_see_65 : decode cX11_see 65 = .ok (.iconst (-1), 1) := by decide +kernel
theorem dX11_see_66 : decode cX11_see 66 = .ok (.ireturn, 1) := by decide +kernel
/-! scanning -/
def fN8 (r k : Nat) : Bool := !(r == 11 && k == 8)
def fA9 (r k : Nat) : Bool := !(r == 11 && k == 9)
def fZ (r k : Nat) : Bool := !(r == 11 && (k == 8 || (k == 9 || k == 10)))
def gT (_ : Nat) : Bool := true
abbrev KN8 : TS → TS → Prop := KF fN8 gT
abbrev KA9 : TS → TS → Prop := KF fA9 gT
abbrev KZ : TS → TS → Prop := KF fZ gT
theorem KN8.z {z u : TS} (h : KN8 z u) : KZ z u := h.mono (fun r k q => by unfold fZ at q; unfold fN8; cases h1 : (r == 11) <;> cases h2 : (k == 8) <;> simp_all) (fun _ q => q)
theorem KA9.z {z u : TS} (h : KA9 z u) : KZ z u := h.mono (fun r k q => by unfold fZ at q; unfold fA9; cases h1 : (r == 11) <;> cases h2 : (k == 9) <;> simp_all) (fun _ q => q)
def NXx (z : TS) : Prop := (tI z 386 8).toInt ≤ (tI z 386 1).toInt
def LSx (z : TS) : Prop := (tI z 386 8).toInt < (tI z 386 1).toInt
def SNx (z : TS) : Prop := (tI z 386 8).toInt < (tI z 386 1).toInt → ¬ tA z 387 (tI z 386 8).toNatClampNeg = 32
def CHx (lo hi : Int) (z : TS) (i : Int32) : Prop := i.toInt < (tI z 386 1).toInt ∧ iv lo hi (tA z 387 i.toNatClampNeg)
def LTx (z : TS) : Prop := CHx 97 122 z (tI z 386 8)
def Scx (z u : TS) : Prop := NXx u ∧ (tI z 386 8).toInt ≤ (tI u 386 8).toInt
theorem Scx.rf {z : TS} (h : NXx z) : Scx z z := ⟨h, Int.le_refl _⟩
theorem Scx.tr {z u w : TS} (h1 : Scx z u) (h2 : Scx u w) : Scx z w := ⟨h2.1, Int.le_trans h1.2 h2.2⟩
theorem Scx.k {f : Nat → Nat → Bool} {g : Nat → Bool} {z u : TS} (h : NXx z) (k : KF f g z u) (h8 : f 11 8 = true) (h1 : f 11 1 = true) : Scx z u := by
  have e8 := k.1 386 8 h8
  have e1 := k.1 386 1 h1
  unfold Scx NXx at *
  rw [e8, e1]
  exact ⟨h, Int.le_refl _⟩
theorem LTx.ls {z : TS} (h : LTx z) : LSx z := h.1
theorem nx_of {z : TS} {a b : Int32} (h8 : tI z 386 8 = a) (h1 : tI z 386 1 = b) (h : a.toInt ≤ b.toInt) : NXx z := by unfold NXx; rw [h8, h1]; exact h
theorem ls_of {z : TS} {a b : Int32} (h8 : a = tI z 386 8) (h1 : b = tI z 386 1) (h : ¬ b ≤ a) : LSx z := by unfold LSx; rw [← h8, ← h1]; exact Int32.lt_iff_toInt_lt.mp (Int32.not_le.mp h)
theorem see_c {z zz : TS} {a b w : Int32} (hs : SNx z) (e : zz = z) (h8 : a = tI zz 386 8) (h1 : b = tI zz 386 1) (h : ¬ b ≤ a) (hw : w = tA zz 387 a.toNatClampNeg) (hc : w = 32) : False := by
  subst e
  exact hs (ls_of h8 h1 h) (by rw [← h8, ← hw]; exact hc)
theorem sn_a {z : TS} {a b : Int32} (h8 : a = tI z 386 8) (h1 : b = tI z 386 1) (h : b ≤ a) : SNx z := fun q => by
  rw [← h8, ← h1] at q
  have := Int32.le_iff_toInt_le.mp h
  omega
theorem sn_b {z : TS} {a w : Int32} (h8 : a = tI z 386 8) (hw : w = tA z 387 a.toNatClampNeg) (hc : ¬ w = 32) : SNx z := fun _ q => hc (by rw [hw, h8]; exact q)
theorem up_nx {z u : TS} {a b a' : Int32} (h8 : a = tI z 386 8) (h1 : b = tI z 386 1) (h : a.toInt < b.toInt) (e : a'.toInt = 1 + 1 * a.toInt) (u8 : tI u 386 8 = a') (u1 : tI u 386 1 = b) : Scx z u ∧ (tI z 386 8).toInt + 1 ≤ (tI u 386 8).toInt := by
  unfold Scx NXx
  rw [u8, u1, ← h8]
  exact ⟨⟨by omega, by omega⟩, by omega⟩
theorem lw_step {z : TS} {y a v : Int32} (hold : 0 < y.toInt → LTx z) (h : CHx 97 122 z v) (h8 : a = tI z 386 8) (ev : v.toInt = a.toInt + y.toInt) (hy : 0 ≤ y.toInt) : LTx z := by
  rcases (show y.toInt = 0 ∨ 0 < y.toInt by omega) with q | q
  · have e : v = a := Int32.toInt_inj.mp (by omega)
    rw [e, h8] at h
    exact h
  · exact hold q
theorem LTx.k {f : Nat → Nat → Bool} {g : Nat → Bool} {z u : TS} (h : LTx z) (k : KF f g z u) (h8 : tI u 386 8 = tI z 386 8) (h1 : f 11 1 = true) (hg : g 45 = true) : LTx u := by
  unfold LTx CHx at *
  rw [h8, k.1 386 1 h1, (k.2.1 387 hg).1]
  exact h
set_option maxHeartbeats 4000000 in
set_option maxRecDepth 100000 in
theorem v_fails (l : Launch) (D : va_G) (K : Nat → ClassId) (ad : Nat → Nat) (z : TS) (o : Ok z) (x1 : Int32) (x2 : Int32) : cI l yX11_fails cX11_fails 3 .boolean ({ frames := 0, cells := 0, slots := 0, locals := 0 }) D K ad z [.ref (ad 386), .int x1, .int x2] (fun r u => Ok u ∧ KA9 z u ∧ iv 0 0 r) := by
  refine t_enterI (by decide) (Nat.le_of_ble_eq_true rfl) rfl rfl ?_
  intro p e s m args below meth c A R Q H locs ls E hfr hlo RET G hl
  have E : mE p s m meth c cX11_fails args 3 RX11 D K A := E
  have hl : lv_has ls 3 [(0, .ref (ad 386)), (1, .int x1), (2, .int x2)] := hl
  refine lv_aload_n E.1 E.2.1 dX11_fails_0 rfl (lv_at hl 0 rfl) ?_
  refine t_get E G 11 9 (rfl : ro 386 = 11) (C := RX11) (T := TX11) (N := 37) rfl (by decide) (by decide) (by decide) mw_fl_11_90 (fvl_i rfl) dX11_fails_1 ?_
  refine lv_topi (fun v1 e2 => ?_)
  refine lv_if_ne (tgt := 19) E.1 E.2.1 dX11_fails_4 (by decide) (fun c3 => ?_) (fun c3 => ?_)
  · skip
    refine lv_iconst (v := 0) E.1 E.2.1 dX11_fails_19 (by decide) ?_
    exact RET G ⟨o, KF.rf, (iv_mono (iv_lit (lo := 0) (hi := 0) 0 (by decide) (by decide)) (by decide) (by decide))⟩ (by decide) dX11_fails_20
  · skip
    have b4 : iv 0 0 v1 := iv_eq c3 (iv_lit (lo := 0) (hi := 0) 0 (by decide) (by decide))
    refine lv_aload_n E.1 E.2.1 dX11_fails_7 rfl (lv_at hl 0 rfl) ?_
    refine lv_iconst (v := 1) E.1 E.2.1 dX11_fails_8 (by decide) ?_
    refine lv_bipush (v := 8) E.1 E.2.1 dX11_fails_9 (by decide) ?_
    refine lv_iload_n E.1 E.2.1 dX11_fails_11 rfl (lv_at hl 2 rfl) ?_
    refine lv_imul E.1 E.2.1 dX11_fails_12 ?_
    refine lv_topi (fun v5 e6 => ?_)
    refine lv_iadd E.1 E.2.1 dX11_fails_13 ?_
    refine lv_topi (fun v7 e8 => ?_)
    refine lv_iload_n E.1 E.2.1 dX11_fails_14 rfl (lv_at hl 1 rfl) ?_
    refine lv_iadd E.1 E.2.1 dX11_fails_15 ?_
    refine lv_topi (fun v9 e10 => ?_)
    refine t_puti E G 11 9 (rfl : ro 386 = 11) (C := RX11) (T := TX11) (N := 37) rfl (by decide) (by decide) (by decide) rfl rfl mw_fl_11_90 rfl dX11_fails_16 (fun H locs G => ?_)
    obtain ⟨zz11, G, oo12, kk13, h14⟩ : ∃ u : TS, mG D A s H locs (wd K ad u) ∧ Ok u ∧ KA9 z u ∧ tI u 386 9 = v9 := ⟨_, G, ok_i o 11 (rfl : ro 386 = 11) (iv_mono (iv_full v9) (by decide) (by decide)) (by decide), KF.tr KF.rf (KF_i 11 (rfl : ro 386 = 11) (by decide)), sI_self⟩
    refine lv_iconst (v := 0) E.1 E.2.1 dX11_fails_19 (by decide) ?_
    exact RET G ⟨oo12, kk13, (iv_mono (iv_lit (lo := 0) (hi := 0) 0 (by decide) (by decide)) (by decide) (by decide))⟩ (by decide) dX11_fails_20
set_option maxHeartbeats 4000000 in
set_option maxRecDepth 100000 in
theorem v_see (l : Launch) (D : va_G) (K : Nat → ClassId) (ad : Nat → Nat) (z : TS) (o : Ok z) (hn : NXx z) : cI l yX11_see cX11_see 1 .int ({ frames := 0, cells := 0, slots := 0, locals := 0 }) D K ad z [.ref (ad 386)] (fun r u => Ok u ∧ KN8 z u ∧ iv (-1) 255 r ∧ (Scx z u) ∧ (SNx u) ∧ (SNx z → tI u 386 8 = tI z 386 8) ∧ (0 ≤ r.toInt → LSx u)) := by
  refine t_enterI (by decide) (Nat.le_of_ble_eq_true rfl) rfl rfl ?_
  intro p e s m args below meth c A R Q H locs ls E hfr hlo RET G hl
  have E : mE p s m meth c cX11_see args 1 RX11 D K A := E
  have hl : lv_has ls 1 [(0, .ref (ad 386))] := hl
  have LOOP0 : ∀ n : Nat, ∀ (zz1 : TS) (H : Heap) (locs : List Loc) (ls : Array Slot), mG D A s H locs (wd K ad zz1) → Ok zz1 → KN8 z zz1 → Scx z zz1 → (SNx z → zz1 = z) → 400 < (tI zz1 386 8).toInt + (n : Int) → lv_has ls 1 [(0, .ref (ad 386))] → W p l e R s m args below meth c H locs 0 0 Q (F0 m 0 ls []) := by
    intro n
    induction n with
    | zero =>
      intro zz1 H locs ls G oo2 kk3 h5 h6 m4 hl
      exact absurd m4 (by have := (oo2.i (j := 386) 11 8 rfl).2; have e : ihi 11 8 = 400 := (by decide); omega)
    | succ n ih0 =>
      intro zz1 H locs ls G oo2 kk3 h5 h6 m4 hl
      refine lv_aload_n E.1 E.2.1 dX11_see_0 rfl (lv_at hl 0 rfl) ?_
      refine t_get E G 11 8 (rfl : ro 386 = 11) (C := RX11) (T := TX11) (N := 37) rfl (by decide) (by decide) (by decide) mw_fl_11_93 (fvl_i rfl) dX11_see_1 ?_
      refine lv_topi (fun v7 e8 => ?_)
      have b9 : iv 0 400 v7 := by rw [e8]; exact oo2.i 11 8 (rfl : ro 386 = 11)
      refine lv_aload_n E.1 E.2.1 dX11_see_4 rfl (lv_at hl 0 rfl) ?_
      refine t_get E G 11 1 (rfl : ro 386 = 11) (C := RX11) (T := TX11) (N := 37) rfl (by decide) (by decide) (by decide) mw_fl_11_83 (fvl_i rfl) dX11_see_5 ?_
      refine lv_topi (fun v10 e11 => ?_)
      have b12 : iv 0 400 v10 := by rw [e11]; exact oo2.i 11 1 (rfl : ro 386 = 11)
      refine lv_icmp_ge (tgt := 38) E.1 E.2.1 dX11_see_8 (by decide) (fun c13 => ?_) (fun c13 => ?_)
      · skip
        refine lv_aload_n E.1 E.2.1 dX11_see_38 rfl (lv_at hl 0 rfl) ?_
        refine t_get E G 11 8 (rfl : ro 386 = 11) (C := RX11) (T := TX11) (N := 37) rfl (by decide) (by decide) (by decide) mw_fl_11_93 (fvl_i rfl) dX11_see_39 ?_
        refine m_ci v7 e8.symm ?_
        refine lv_aload_n E.1 E.2.1 dX11_see_42 rfl (lv_at hl 0 rfl) ?_
        refine t_get E G 11 1 (rfl : ro 386 = 11) (C := RX11) (T := TX11) (N := 37) rfl (by decide) (by decide) (by decide) mw_fl_11_83 (fvl_i rfl) dX11_see_43 ?_
        refine m_ci v10 e11.symm ?_
        refine lv_icmp_ge (tgt := 65) E.1 E.2.1 dX11_see_46 (by decide) (fun _ => ?_) (fun h => absurd c13 h)
        refine lv_iconst (v := (-1)) E.1 E.2.1 dX11_see_65 (by decide) ?_
        exact RET G ⟨oo2, kk3, (iv_mono (iv_lit (lo := (-1)) (hi := (-1)) (-1) (by decide) (by decide)) (by decide) (by decide)), h5, (sn_a e8 e11 c13), (fun hs => by rw [h6 hs]), (fun q => absurd q (by decide))⟩ rfl dX11_see_66
      · skip
        have b14 : iv 0 399 v7 := lt_l (Int32.not_le.mp c13) b9 b12 (by decide)
        have b15 : iv 1 400 v10 := lt_r (Int32.not_le.mp c13) b9 b12 (by decide)
        refine lv_aload_n E.1 E.2.1 dX11_see_11 rfl (lv_at hl 0 rfl) ?_
        refine t_get E G 11 0 (rfl : ro 386 = 11) (C := RX11) (T := TX11) (N := 37) rfl (by decide) (by decide) (by decide) mw_fl_11_7 (v := .ref (ad 387)) (fvl_o (n := 1) rfl) dX11_see_12 ?_
        refine lv_aload_n E.1 E.2.1 dX11_see_15 rfl (lv_at hl 0 rfl) ?_
        refine t_get E G 11 8 (rfl : ro 386 = 11) (C := RX11) (T := TX11) (N := 37) rfl (by decide) (by decide) (by decide) mw_fl_11_93 (fvl_i rfl) dX11_see_16 ?_
        refine m_ci v7 e8.symm ?_
        refine t_bald E G 45 (rfl : ro 387 = 45) (by decide) (by decide) rfl (n := 400) rfl (iv_vp b14 (by decide) (by decide)) dX11_see_19 ?_
        refine lv_topi (fun v16 e17 => ?_)
        have b18 : iv (-128) 127 v16 := by rw [e17]; exact iv_mono (rd_u oo2 45 (rfl : ro 387 = 45) (by decide) _) (by decide) (by decide)
        refine lv_bipush (v := 32) E.1 E.2.1 dX11_see_20 (by decide) ?_
        refine lv_icmp_ne (tgt := 38) E.1 E.2.1 dX11_see_22 (by decide) (fun c19 => ?_) (fun c19 => ?_)
        · skip
          refine lv_aload_n E.1 E.2.1 dX11_see_38 rfl (lv_at hl 0 rfl) ?_
          refine t_get E G 11 8 (rfl : ro 386 = 11) (C := RX11) (T := TX11) (N := 37) rfl (by decide) (by decide) (by decide) mw_fl_11_93 (fvl_i rfl) dX11_see_39 ?_
          refine m_ci v7 e8.symm ?_
          refine lv_aload_n E.1 E.2.1 dX11_see_42 rfl (lv_at hl 0 rfl) ?_
          refine t_get E G 11 1 (rfl : ro 386 = 11) (C := RX11) (T := TX11) (N := 37) rfl (by decide) (by decide) (by decide) mw_fl_11_83 (fvl_i rfl) dX11_see_43 ?_
          refine m_ci v10 e11.symm ?_
          refine lv_icmp_ge (tgt := 65) E.1 E.2.1 dX11_see_46 (by decide) (fun h => absurd h c13) (fun _ => ?_)
          refine lv_aload_n E.1 E.2.1 dX11_see_49 rfl (lv_at hl 0 rfl) ?_
          refine t_get E G 11 0 (rfl : ro 386 = 11) (C := RX11) (T := TX11) (N := 37) rfl (by decide) (by decide) (by decide) mw_fl_11_7 (v := .ref (ad 387)) (fvl_o (n := 1) rfl) dX11_see_50 ?_
          refine lv_aload_n E.1 E.2.1 dX11_see_53 rfl (lv_at hl 0 rfl) ?_
          refine t_get E G 11 8 (rfl : ro 386 = 11) (C := RX11) (T := TX11) (N := 37) rfl (by decide) (by decide) (by decide) mw_fl_11_93 (fvl_i rfl) dX11_see_54 ?_
          refine m_ci v7 e8.symm ?_
          refine t_bald E G 45 (rfl : ro 387 = 45) (by decide) (by decide) rfl (n := 400) rfl (iv_vp b14 (by decide) (by decide)) dX11_see_57 ?_
          refine m_ci v16 e17.symm ?_
          refine lv_sipush (v := 255) E.1 E.2.1 dX11_see_58 (by decide) ?_
          refine lv_iand E.1 E.2.1 dX11_see_61 ?_
          refine lv_topi (fun v20 e21 => ?_)
          have b22 : iv 0 255 v20 := by rw [e21]; exact iv_and (iv_lit (lo := 255) (hi := 255) 255 (by decide) (by decide)) (by decide)
          refine lv_goto (tgt := 66) E.1 E.2.1 dX11_see_62 (by decide) ?_
          exact RET G ⟨oo2, kk3, (iv_mono b22 (by decide) (by decide)), h5, (sn_b e8 e17.symm.symm c19), (fun hs => by rw [h6 hs]), (fun _ => ls_of e8 e11 c13)⟩ rfl dX11_see_66
        · skip
          have b23 : iv 32 32 v16 := iv_eq c19 (iv_lit (lo := 32) (hi := 32) 32 (by decide) (by decide))
          refine lv_aload_n E.1 E.2.1 dX11_see_25 rfl (lv_at hl 0 rfl) ?_
          refine lv_dup E.1 E.2.1 dX11_see_26 rfl ?_
          refine t_get E G 11 8 (rfl : ro 386 = 11) (C := RX11) (T := TX11) (N := 37) rfl (by decide) (by decide) (by decide) mw_fl_11_93 (fvl_i rfl) dX11_see_27 ?_
          refine m_ci v7 e8.symm ?_
          refine lv_iconst (v := 1) E.1 E.2.1 dX11_see_30 (by decide) ?_
          refine lv_iadd E.1 E.2.1 dX11_see_31 ?_
          refine lv_topi (fun v24 e25 => ?_)
          have b26 : iv 1 400 v24 := by rw [e25]; exact iv_add b14 (iv_lit (lo := 1) (hi := 1) 1 (by decide) (by decide)) (by decide) (by decide) (by decide) (by decide)
          have l27 : v24.toInt = 1 + 1 * v7.toInt := (show v24.toInt = v7.toInt + 1 by rw [e25]; exact ti_addc 1 (by decide) b14 (by decide) (by decide)).trans (by omega)
          refine t_puti E G 11 8 (rfl : ro 386 = 11) (C := RX11) (T := TX11) (N := 37) rfl (by decide) (by decide) (by decide) rfl rfl mw_fl_11_93 rfl dX11_see_32 (fun H locs G => ?_)
          obtain ⟨zz28, G, oo29, kk30, h31, h32⟩ : ∃ u : TS, mG D A s H locs (wd K ad u) ∧ Ok u ∧ KN8 z u ∧ tI u 386 1 = v10 ∧ tI u 386 8 = v24 := ⟨_, G, ok_i oo2 11 (rfl : ro 386 = 11) (iv_mono b26 (by decide) (by decide)) (by decide), KF.tr kk3 (KF_i 11 (rfl : ro 386 = 11) (by decide)), (sI_k e11.symm (by decide)), sI_self⟩
          refine lv_goto (tgt := 0) E.1 E.2.1 dX11_see_35 (by decide) ?_
          exact ih0 zz28 H locs ls G oo29 kk30 (Scx.tr h5 (up_nx e8 e11 (Int32.lt_iff_toInt_lt.mp (Int32.not_le.mp c13)) (l27.trans (by omega)) h32 h31).1) (fun hs => absurd (see_c hs (h6 hs) e8 e11 c13 e17.symm.symm c19) (fun q => q)) (by have q := congrArg Int32.toInt h32; have q2 := congrArg Int32.toInt e8; have := l27; have := m4; omega) (lv_sub hl [0] rfl)
  exact LOOP0 401 z H locs ls G o KF.rf (Scx.rf hn) (fun _ => rfl) (by have := (o.i (j := 386) 11 8 rfl).1; have e : ilo 11 8 = 0 := (by decide); omega) (lv_sub hl [0] rfl)
set_option maxHeartbeats 4000000 in
set_option maxRecDepth 100000 in
theorem v_isDigit (l : Launch) (D : va_G) (K : Nat → ClassId) (ad : Nat → Nat) (z : TS) (o : Ok z) (x1 : Int32) (bx1 : iv 0 800 x1) : cI l yX11_isDigit cX11_isDigit 2 .boolean ({ frames := 0, cells := 0, slots := 0, locals := 0 }) D K ad z [.ref (ad 386), .int x1] (fun r u => u = z ∧ iv 0 1 r ∧ (¬ r = 0 → CHx 48 57 z x1) ∧ (r = 0 → ¬ CHx 48 57 z x1)) := by
  refine t_enterI (by decide) (Nat.le_of_ble_eq_true rfl) rfl rfl ?_
  intro p e s m args below meth c A R Q H locs ls E hfr hlo RET G hl
  have E : mE p s m meth c cX11_isDigit args 2 RX11 D K A := E
  have hl : lv_has ls 2 [(0, .ref (ad 386)), (1, .int x1)] := hl
  refine lv_iload_n E.1 E.2.1 dX11_isDigit_0 rfl (lv_at hl 1 rfl) ?_
  refine lv_aload_n E.1 E.2.1 dX11_isDigit_1 rfl (lv_at hl 0 rfl) ?_
  refine t_get E G 11 1 (rfl : ro 386 = 11) (C := RX11) (T := TX11) (N := 37) rfl (by decide) (by decide) (by decide) mw_fl_11_83 (fvl_i rfl) dX11_isDigit_2 ?_
  refine lv_topi (fun v1 e2 => ?_)
  have b3 : iv 0 400 v1 := by rw [e2]; exact o.i 11 1 (rfl : ro 386 = 11)
  refine lv_icmp_ge (tgt := 34) E.1 E.2.1 dX11_isDigit_5 (by decide) (fun c4 => ?_) (fun c4 => ?_)
  · skip
    refine lv_iconst (v := 0) E.1 E.2.1 dX11_isDigit_34 (by decide) ?_
    exact RET G ⟨rfl, (iv_mono (iv_lit (lo := 0) (hi := 0) 0 (by decide) (by decide)) (by decide) (by decide)), (fun h => absurd rfl h), (fun _ q => by have h := q.1; rw [← e2] at h; have := Int32.le_iff_toInt_le.mp c4; omega)⟩ (by decide) dX11_isDigit_35
  · skip
    have b5 : iv 0 399 x1 := lt_l (Int32.not_le.mp c4) bx1 b3 (by decide)
    have b6 : iv 1 400 v1 := lt_r (Int32.not_le.mp c4) bx1 b3 (by decide)
    refine lv_aload_n E.1 E.2.1 dX11_isDigit_8 rfl (lv_at hl 0 rfl) ?_
    refine t_get E G 11 0 (rfl : ro 386 = 11) (C := RX11) (T := TX11) (N := 37) rfl (by decide) (by decide) (by decide) mw_fl_11_7 (v := .ref (ad 387)) (fvl_o (n := 1) rfl) dX11_isDigit_9 ?_
    refine lv_iload_n E.1 E.2.1 dX11_isDigit_12 rfl (lv_at hl 1 rfl) ?_
    refine t_bald E G 45 (rfl : ro 387 = 45) (by decide) (by decide) rfl (n := 400) rfl (iv_vp b5 (by decide) (by decide)) dX11_isDigit_13 ?_
    refine lv_topi (fun v7 e8 => ?_)
    have b9 : iv (-128) 127 v7 := by rw [e8]; exact iv_mono (rd_u o 45 (rfl : ro 387 = 45) (by decide) _) (by decide) (by decide)
    refine lv_bipush (v := 48) E.1 E.2.1 dX11_isDigit_14 (by decide) ?_
    refine lv_icmp_lt (tgt := 34) E.1 E.2.1 dX11_isDigit_16 (by decide) (fun c10 => ?_) (fun c10 => ?_)
    · skip
      have b11 : iv (-128) 47 v7 := lt_l c10 b9 (iv_lit (lo := 48) (hi := 48) 48 (by decide) (by decide)) (by decide)
      refine lv_iconst (v := 0) E.1 E.2.1 dX11_isDigit_34 (by decide) ?_
      exact RET G ⟨rfl, (iv_mono (iv_lit (lo := 0) (hi := 0) 0 (by decide) (by decide)) (by decide) (by decide)), (fun h => absurd rfl h), (fun _ q => by have h := q.2; rw [e8.symm] at h; have := h.1; have := h.2; have := b11.1; have := b11.2; omega)⟩ (by decide) dX11_isDigit_35
    · skip
      have b12 : iv 48 127 v7 := le_r (Int32.not_lt.mp c10) (iv_lit (lo := 48) (hi := 48) 48 (by decide) (by decide)) b9 (by decide)
      refine lv_aload_n E.1 E.2.1 dX11_isDigit_19 rfl (lv_at hl 0 rfl) ?_
      refine t_get E G 11 0 (rfl : ro 386 = 11) (C := RX11) (T := TX11) (N := 37) rfl (by decide) (by decide) (by decide) mw_fl_11_7 (v := .ref (ad 387)) (fvl_o (n := 1) rfl) dX11_isDigit_20 ?_
      refine lv_iload_n E.1 E.2.1 dX11_isDigit_23 rfl (lv_at hl 1 rfl) ?_
      refine t_bald E G 45 (rfl : ro 387 = 45) (by decide) (by decide) rfl (n := 400) rfl (iv_vp b5 (by decide) (by decide)) dX11_isDigit_24 ?_
      refine m_ci v7 e8.symm ?_
      refine lv_bipush (v := 57) E.1 E.2.1 dX11_isDigit_25 (by decide) ?_
      refine lv_icmp_gt (tgt := 34) E.1 E.2.1 dX11_isDigit_27 (by decide) (fun c13 => ?_) (fun c13 => ?_)
      · skip
        have b14 : iv 58 127 v7 := lt_r c13 (iv_lit (lo := 57) (hi := 57) 57 (by decide) (by decide)) b12 (by decide)
        refine lv_iconst (v := 0) E.1 E.2.1 dX11_isDigit_34 (by decide) ?_
        exact RET G ⟨rfl, (iv_mono (iv_lit (lo := 0) (hi := 0) 0 (by decide) (by decide)) (by decide) (by decide)), (fun h => absurd rfl h), (fun _ q => by have h := q.2; rw [e8.symm] at h; have := h.1; have := h.2; have := b14.1; have := b14.2; omega)⟩ (by decide) dX11_isDigit_35
      · skip
        have b15 : iv 48 57 v7 := le_l (Int32.not_lt.mp c13) b12 (iv_lit (lo := 57) (hi := 57) 57 (by decide) (by decide)) (by decide)
        refine lv_iconst (v := 1) E.1 E.2.1 dX11_isDigit_30 (by decide) ?_
        refine lv_goto (tgt := 35) E.1 E.2.1 dX11_isDigit_31 (by decide) ?_
        exact RET G ⟨rfl, (iv_mono (iv_lit (lo := 1) (hi := 1) 1 (by decide) (by decide)) (by decide) (by decide)), (fun _ => ⟨by rw [← e2]; exact Int32.lt_iff_toInt_lt.mp (Int32.not_le.mp c4), by rw [e8.symm]; exact iv_mono b15 (by decide) (by decide)⟩), (fun h => absurd h (by decide))⟩ (by decide) dX11_isDigit_35
set_option maxHeartbeats 4000000 in
set_option maxRecDepth 100000 in
theorem v_isLetter (l : Launch) (D : va_G) (K : Nat → ClassId) (ad : Nat → Nat) (z : TS) (o : Ok z) (x1 : Int32) (bx1 : iv 0 800 x1) : cI l yX11_isLetter cX11_isLetter 2 .boolean ({ frames := 0, cells := 0, slots := 0, locals := 0 }) D K ad z [.ref (ad 386), .int x1] (fun r u => u = z ∧ iv 0 1 r ∧ (¬ r = 0 → CHx 97 122 z x1) ∧ (r = 0 → ¬ CHx 97 122 z x1)) := by
  refine t_enterI (by decide) (Nat.le_of_ble_eq_true rfl) rfl rfl ?_
  intro p e s m args below meth c A R Q H locs ls E hfr hlo RET G hl
  have E : mE p s m meth c cX11_isLetter args 2 RX11 D K A := E
  have hl : lv_has ls 2 [(0, .ref (ad 386)), (1, .int x1)] := hl
  refine lv_iload_n E.1 E.2.1 dX11_isLetter_0 rfl (lv_at hl 1 rfl) ?_
  refine lv_aload_n E.1 E.2.1 dX11_isLetter_1 rfl (lv_at hl 0 rfl) ?_
  refine t_get E G 11 1 (rfl : ro 386 = 11) (C := RX11) (T := TX11) (N := 37) rfl (by decide) (by decide) (by decide) mw_fl_11_83 (fvl_i rfl) dX11_isLetter_2 ?_
  refine lv_topi (fun v1 e2 => ?_)
  have b3 : iv 0 400 v1 := by rw [e2]; exact o.i 11 1 (rfl : ro 386 = 11)
  refine lv_icmp_ge (tgt := 34) E.1 E.2.1 dX11_isLetter_5 (by decide) (fun c4 => ?_) (fun c4 => ?_)
  · skip
    refine lv_iconst (v := 0) E.1 E.2.1 dX11_isLetter_34 (by decide) ?_
    exact RET G ⟨rfl, (iv_mono (iv_lit (lo := 0) (hi := 0) 0 (by decide) (by decide)) (by decide) (by decide)), (fun h => absurd rfl h), (fun _ q => by have h := q.1; rw [← e2] at h; have := Int32.le_iff_toInt_le.mp c4; omega)⟩ (by decide) dX11_isLetter_35
  · skip
    have b5 : iv 0 399 x1 := lt_l (Int32.not_le.mp c4) bx1 b3 (by decide)
    have b6 : iv 1 400 v1 := lt_r (Int32.not_le.mp c4) bx1 b3 (by decide)
    refine lv_aload_n E.1 E.2.1 dX11_isLetter_8 rfl (lv_at hl 0 rfl) ?_
    refine t_get E G 11 0 (rfl : ro 386 = 11) (C := RX11) (T := TX11) (N := 37) rfl (by decide) (by decide) (by decide) mw_fl_11_7 (v := .ref (ad 387)) (fvl_o (n := 1) rfl) dX11_isLetter_9 ?_
    refine lv_iload_n E.1 E.2.1 dX11_isLetter_12 rfl (lv_at hl 1 rfl) ?_
    refine t_bald E G 45 (rfl : ro 387 = 45) (by decide) (by decide) rfl (n := 400) rfl (iv_vp b5 (by decide) (by decide)) dX11_isLetter_13 ?_
    refine lv_topi (fun v7 e8 => ?_)
    have b9 : iv (-128) 127 v7 := by rw [e8]; exact iv_mono (rd_u o 45 (rfl : ro 387 = 45) (by decide) _) (by decide) (by decide)
    refine lv_bipush (v := 97) E.1 E.2.1 dX11_isLetter_14 (by decide) ?_
    refine lv_icmp_lt (tgt := 34) E.1 E.2.1 dX11_isLetter_16 (by decide) (fun c10 => ?_) (fun c10 => ?_)
    · skip
      have b11 : iv (-128) 96 v7 := lt_l c10 b9 (iv_lit (lo := 97) (hi := 97) 97 (by decide) (by decide)) (by decide)
      refine lv_iconst (v := 0) E.1 E.2.1 dX11_isLetter_34 (by decide) ?_
      exact RET G ⟨rfl, (iv_mono (iv_lit (lo := 0) (hi := 0) 0 (by decide) (by decide)) (by decide) (by decide)), (fun h => absurd rfl h), (fun _ q => by have h := q.2; rw [e8.symm] at h; have := h.1; have := h.2; have := b11.1; have := b11.2; omega)⟩ (by decide) dX11_isLetter_35
    · skip
      have b12 : iv 97 127 v7 := le_r (Int32.not_lt.mp c10) (iv_lit (lo := 97) (hi := 97) 97 (by decide) (by decide)) b9 (by decide)
      refine lv_aload_n E.1 E.2.1 dX11_isLetter_19 rfl (lv_at hl 0 rfl) ?_
      refine t_get E G 11 0 (rfl : ro 386 = 11) (C := RX11) (T := TX11) (N := 37) rfl (by decide) (by decide) (by decide) mw_fl_11_7 (v := .ref (ad 387)) (fvl_o (n := 1) rfl) dX11_isLetter_20 ?_
      refine lv_iload_n E.1 E.2.1 dX11_isLetter_23 rfl (lv_at hl 1 rfl) ?_
      refine t_bald E G 45 (rfl : ro 387 = 45) (by decide) (by decide) rfl (n := 400) rfl (iv_vp b5 (by decide) (by decide)) dX11_isLetter_24 ?_
      refine m_ci v7 e8.symm ?_
      refine lv_bipush (v := 122) E.1 E.2.1 dX11_isLetter_25 (by decide) ?_
      refine lv_icmp_gt (tgt := 34) E.1 E.2.1 dX11_isLetter_27 (by decide) (fun c13 => ?_) (fun c13 => ?_)
      · skip
        have b14 : iv 123 127 v7 := lt_r c13 (iv_lit (lo := 122) (hi := 122) 122 (by decide) (by decide)) b12 (by decide)
        refine lv_iconst (v := 0) E.1 E.2.1 dX11_isLetter_34 (by decide) ?_
        exact RET G ⟨rfl, (iv_mono (iv_lit (lo := 0) (hi := 0) 0 (by decide) (by decide)) (by decide) (by decide)), (fun h => absurd rfl h), (fun _ q => by have h := q.2; rw [e8.symm] at h; have := h.1; have := h.2; have := b14.1; have := b14.2; omega)⟩ (by decide) dX11_isLetter_35
      · skip
        have b15 : iv 97 122 v7 := le_l (Int32.not_lt.mp c13) b12 (iv_lit (lo := 122) (hi := 122) 122 (by decide) (by decide)) (by decide)
        refine lv_iconst (v := 1) E.1 E.2.1 dX11_isLetter_30 (by decide) ?_
        refine lv_goto (tgt := 35) E.1 E.2.1 dX11_isLetter_31 (by decide) ?_
        exact RET G ⟨rfl, (iv_mono (iv_lit (lo := 1) (hi := 1) 1 (by decide) (by decide)) (by decide) (by decide)), (fun _ => ⟨by rw [← e2]; exact Int32.lt_iff_toInt_lt.mp (Int32.not_le.mp c4), by rw [e8.symm]; exact iv_mono b15 (by decide) (by decide)⟩), (fun h => absurd h (by decide))⟩ (by decide) dX11_isLetter_35
