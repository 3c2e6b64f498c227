theorem mw_cL_11_453 : (Cond.constantLong RX11 453 (1103515245) : Cond) ∈ cw := cw_of (List.mem_append_right _ (List.mem_append_right _ (List.mem_append_right _ (List.mem_append_right _ (List.mem_append_right _ (List.mem_append_right _ (List.mem_append_right _ (List.mem_append_left _ (List.mem_of_getElem? (i := 234) (by decide +kernel)))))))))) (by decide +kernel)
theorem mw_cL_11_455 : (Cond.constantLong RX11 455 (12345) : Cond) ∈ cw := cw_of (List.mem_append_right _ (List.mem_append_right _ (List.mem_append_right _ (List.mem_append_right _ (List.mem_append_right _ (List.mem_append_right _ (List.mem_append_right _ (List.mem_append_left _ (List.mem_of_getElem? (i := 235) (by decide +kernel)))))))))) (by decide +kernel)
theorem mw_cL_11_457 : (Cond.constantLong RX11 457 (2147483648) : Cond) ∈ cw := cw_of (List.mem_append_right _ (List.mem_append_right _ (List.mem_append_right _ (List.mem_append_right _ (List.mem_append_right _ (List.mem_append_right _ (List.mem_append_right _ (List.mem_append_left _ (List.mem_of_getElem? (i := 236) (by decide +kernel)))))))))) (by decide +kernel)
theorem mw_cL_11_459 : (Cond.constantLong RX11 459 (65536) : Cond) ∈ cw := cw_of (List.mem_append_right _ (List.mem_append_right _ (List.mem_append_right _ (List.mem_append_right _ (List.mem_append_right _ (List.mem_append_right _ (List.mem_append_right _ (List.mem_append_left _ (List.mem_of_getElem? (i := 237) (by decide +kernel)))))))))) (by decide +kernel)
theorem mw_fl_11_449 : (Cond.fieldLink RX11 449 "LureTownModel" "drawX" "J" : Cond) ∈ cw := cw_of (List.mem_append_right _ (List.mem_append_right _ (List.mem_append_right _ (List.mem_append_right _ (List.mem_append_right _ (List.mem_append_left _ (List.mem_of_getElem? (i := 139) (by decide +kernel)))))))) (by decide +kernel)
theorem dX11_draw_0 : decode cX11_draw 0 = .ok (.aload_n 0, 1) := by decide +kernel
theorem dX11_draw_1 : decode cX11_draw 1 = .ok (.aload_n 0, 1) := by decide +kernel
theorem dX11_draw_2 : decode cX11_draw 2 = .ok (.getfield 449, 3) := by decide +kernel
theorem dX11_draw_5 : decode cX11_draw 5 = .ok (.ldc2_w 453, 3) := by decide +kernel
theorem dX11_draw_8 : decode cX11_draw 8 = .ok (.lmul, 1) := by decide +kernel
theorem dX11_draw_9 : decode cX11_draw 9 = .ok (.ldc2_w 455, 3) := by decide +kernel
theorem dX11_draw_12 : decode cX11_draw 12 = .ok (.ladd, 1) := by decide +kernel
theorem dX11_draw_13 : decode cX11_draw 13 = .ok (.ldc2_w 457, 3) := by decide +kernel
theorem dX11_draw_16 : decode cX11_draw 16 = .ok (.lrem, 1) := by decide +kernel
theorem dX11_draw_17 : decode cX11_draw 17 = .ok (.putfield 449, 3) := by decide +kernel
theorem dX11_draw_20 : decode cX11_draw 20 = .ok (.aload_n 0, 1) := by decide +kernel
theorem dX11_draw_21 : decode cX11_draw 21 = .ok (.getfield 449, 3) := by decide +kernel
theorem dX11_draw_24 : decode cX11_draw 24 = .ok (.ldc2_w 459, 3) := by decide +kernel
theorem dX11_draw_27 : decode cX11_draw 27 = .ok (.ldiv, 1) := by decide +kernel
theorem dX11_draw_28 : decode cX11_draw 28 = .ok (.iload_n 1, 1) := by decide +kernel
theorem dX11_draw_29 : decode cX11_draw 29 = .ok (.i2l, 1) := by decide +kernel
theorem dX11_draw_30 : decode cX11_draw 30 = .ok (.lrem, 1) := by decide +kernel
theorem dX11_draw_31 : decode cX11_draw 31 = .ok (.l2i, 1) := by decide +kernel
theorem dX11_draw_32 : decode cX11_draw 32 = .ok (.ireturn, 1) := by decide +kernel
theorem tl_mul {x y : Int64} (h1 : -9223372036854775808 ≤ x.toInt * y.toInt) (h2 : x.toInt * y.toInt ≤ 9223372036854775807) : (x * y).toInt = x.toInt * y.toInt := by
  rw [Int64.toInt_mul]; exact Int.bmod_eq_of_le (by omega) (by omega)
theorem tl_add {x y : Int64} (h1 : -9223372036854775808 ≤ x.toInt + y.toInt) (h2 : x.toInt + y.toInt ≤ 9223372036854775807) : (x + y).toInt = x.toInt + y.toInt := by
  rw [Int64.toInt_add]; exact Int.bmod_eq_of_le (by omega) (by omega)
theorem tl_sub {x y : Int64} (h1 : -9223372036854775808 ≤ x.toInt - y.toInt) (h2 : x.toInt - y.toInt ≤ 9223372036854775807) : (x - y).toInt = x.toInt - y.toInt := by
  rw [Int64.toInt_sub]; exact Int.bmod_eq_of_le (by omega) (by omega)
theorem tl_div {x y : Int64} (n : Int) (hy : y.toInt = n) (hn : 0 < n) (hx : 0 ≤ x.toInt) : (x / y).toInt = x.toInt / n := by
  have hne : y ≠ -1 := fun q => by rw [q] at hy; have : (-1 : Int64).toInt = -1 := by decide
                                   omega
  rw [Int64.toInt_div_of_ne_right _ _ hne, hy]; exact Int.tdiv_eq_ediv_of_nonneg hx
theorem tl_rem {x y : Int64} (n : Int) (hy : y.toInt = n) (hn : 0 < n) (hx : 0 ≤ x.toInt) : 0 ≤ (x - x / y * y).toInt ∧ (x - x / y * y).toInt < n := by
  have e1 := tl_div n hy hn hx
  have h1 : 0 ≤ x.toInt / n := Int.ediv_nonneg hx (by omega)
  have h2 := Int.mul_ediv_add_emod x.toInt n
  have h3 := Int.emod_nonneg x.toInt (show n ≠ 0 by omega)
  have h4 := Int.emod_lt_of_pos x.toInt hn
  have h5 : 0 ≤ n * (x.toInt / n) := Int.mul_nonneg (by omega) h1
  have hm1 := Int64.toInt_lt x
  have e2 : (x / y * y).toInt = x.toInt / n * n := by
    have := tl_mul (x := x / y) (y := y) (by rw [e1, hy, Int.mul_comm]; omega) (by rw [e1, hy, Int.mul_comm]; omega)
    rw [this, e1, hy]
  have e3 := tl_sub (x := x) (y := x / y * y) (by rw [e2, Int.mul_comm]; omega) (by rw [e2, Int.mul_comm]; omega)
  rw [e2, Int.mul_comm] at e3
  exact ⟨by omega, by omega⟩
def dj (z : TS) : Prop := 0 ≤ (tJ z).toInt ∧ (tJ z).toInt < 2147483648
theorem dr_1 {z : TS} {v1 v2 v3 v4 : Int64} (h : dj z) (e1 : v1 = tJ z) (e2 : v2 = v1 * 1103515245) (e3 : v3 = v2 + 12345) (e4 : v4 = v3 - v3 / 2147483648 * 2147483648) : 0 ≤ v4.toInt ∧ v4.toInt < 2147483648 := by
  unfold dj at h
  rw [← e1] at h
  have c1 : (1103515245 : Int64).toInt = 1103515245 := by decide
  have c2 : (12345 : Int64).toInt = 12345 := by decide
  have q2 : v2.toInt = v1.toInt * 1103515245 := by rw [e2, tl_mul (by rw [c1]; omega) (by rw [c1]; omega), c1]
  have q3 : v3.toInt = v1.toInt * 1103515245 + 12345 := by rw [e3, tl_add (by rw [q2, c2]; omega) (by rw [q2, c2]; omega), q2, c2]
  rw [e4]
  exact tl_rem 2147483648 (by decide) (by decide) (by omega)
theorem dr_2 {v5 v6 v7 v8 : Int64} {x r : Int32} {a b : Int} (h : 0 ≤ v5.toInt ∧ v5.toInt < 2147483648) (e6 : v6 = v5 / 65536) (e7 : v7 = x.toInt64) (hb : iv a b x) (ha : 0 < a) (e8 : v8 = v6 - v6 / v7 * v7) (e9 : r = v8.toInt32) {hi : Int} (hh : b - 1 ≤ hi) (h31 : b ≤ 1000) : iv 0 hi r := by
  obtain ⟨b1, b2⟩ := hb
  have q7 : v7.toInt = x.toInt := by rw [e7, Int32.toInt_toInt64]
  have q6 : v6.toInt = v5.toInt / 65536 := by rw [e6]; exact tl_div 65536 (by decide) (by decide) h.1
  have q8 := tl_rem (x := v6) (y := v7) x.toInt q7 (by omega) (by rw [q6]; exact Int.ediv_nonneg h.1 (by decide))
  rw [← e8] at q8
  have q9 : r.toInt = v8.toInt := by
    rw [e9, Int64.toInt_toInt32]; exact Int.bmod_eq_of_le (by omega) (by omega)
  exact ⟨by omega, by omega⟩
theorem dj_x {z : TS} {x : Int32} {v : Int64} (e : tJ z = v) (ev : v = x.toInt64) {b : Int} (h : iv 0 b x) : dj z := by
  unfold dj
  rw [e, ev, Int32.toInt_toInt64]
  have := Int32.toInt_lt x
  exact ⟨h.1, by omega⟩
theorem dj_k {z u : TS} (h : dj z) (e : tJ u = tJ z) : dj u := by unfold dj; rw [e]; exact h
theorem lg_nlt {n : Int32} {x y : Int64} (e : n = lg_cmp x y) (h : y.toInt ≤ x.toInt) : ¬ n < 0 := by
  rw [e]; unfold lg_cmp
  by_cases h1 : x > y
  · rw [if_pos h1]; decide
  · have e2 : x = y := Int64.toInt_inj.mp (by have : ¬ y.toInt < x.toInt := fun q => h1 (Int64.lt_iff_toInt_lt.mpr q)
                                              omega)
    rw [if_neg h1, if_pos e2]; decide
theorem lg_ngt {n : Int32} {x y : Int64} (e : n = lg_cmp x y) (h : x.toInt ≤ y.toInt) : ¬ (0 : Int32) < n := by
  rw [e]; unfold lg_cmp
  have h1 : ¬ x > y := fun q => by have := Int64.lt_iff_toInt_lt.mp q; omega
  rw [if_neg h1]
  by_cases h2 : x = y
  · rw [if_pos h2]; decide
  · rw [if_neg h2]; decide
theorem lg_lt {n : Int32} {x y : Int64} (e : n = lg_cmp x y) (h : x.toInt < y.toInt) : n < 0 := by
  rw [e]; unfold lg_cmp
  have h1 : ¬ x > y := fun q => by have := Int64.lt_iff_toInt_lt.mp q; omega
  have h2 : ¬ x = y := fun q => by rw [q] at h; omega
  rw [if_neg h1, if_neg h2]; decide
theorem lg_gt {n : Int32} {x y : Int64} (e : n = lg_cmp x y) (h : y.toInt < x.toInt) : (0 : Int32) < n := by
  rw [e]; unfold lg_cmp
  have h1 : x > y := Int64.lt_iff_toInt_lt.mpr h
  rw [if_pos h1]; decide
theorem in_t {x : Int32} {w1 w2 w3 : Int64} {a b : Int} (e : w1 = x.toInt64) (h : iv a b x) (h2 : w2.toInt ≤ a) (h3 : b ≤ w3.toInt) : w2.toInt ≤ w1.toInt ∧ w1.toInt ≤ w3.toInt := by
  rw [e, Int32.toInt_toInt64]; exact ⟨Int.le_trans h2 h.1, Int.le_trans h.2 h3⟩
theorem in_lo {x : Int32} {w1 w2 : Int64} {a b : Int} (e : w1 = x.toInt64) (h : iv a b x) (h2 : b < w2.toInt) : w1.toInt < w2.toInt := by
  rw [e, Int32.toInt_toInt64]; have := h.2; omega
theorem in_hi {x : Int32} {w1 w2 w3 : Int64} {a b : Int} (e : w1 = x.toInt64) (h : iv a b x) (h2 : w2.toInt ≤ a) (h3 : w3.toInt < a) : w2.toInt ≤ w1.toInt ∧ w3.toInt < w1.toInt := by
  rw [e, Int32.toInt_toInt64]; have := h.1; exact ⟨by omega, by omega⟩
theorem sR_row {z : TS} {j : Nat} {f : Nat → Int32} : tA (setR z j f) j = f := by simp [setR, tA]
theorem sR_o {z : TS} {j a : Nat} {f g : Nat → Int32} (h : tA z a = g) (hne : a ≠ j) : tA (setR z j f) a = g := by
  rw [← h]; simp [setR, tA, hne]
/-- only the images' rows -/
def fV (_ _ : Nat) : Bool := true
def gV (r : Nat) : Bool := !(decide (63 ≤ r))
abbrev KV : TS → TS → Prop := KF fV gV
def fB (r k : Nat) : Bool := !(r == 11 && (k == 21 || (k == 22 || k == 26)))
def gB (r : Nat) : Bool := !(r == 54)
abbrev KB : TS → TS → Prop := KF fB gB
set_option maxHeartbeats 4000000 in
set_option maxRecDepth 100000 in
theorem v_draw_100 (l : Launch) (D : va_G) (K : Nat → ClassId) (ad : Nat → Nat) (z : TS) (o : Ok z) (hx : dj z) : cI l yX11_draw cX11_draw 2 .int ({ frames := 0, cells := 0, slots := 0, locals := 0 }) D K ad z [.ref (ad 386), .int 100] (fun r u => Ok u ∧ KD z u ∧ iv 0 99 r ∧ (dj u)) := by
  refine t_enterI (by decide) (Nat.le_of_ble_eq_true rfl) rfl rfl ?_
  intro p e s m args below meth c A R Q H locs ls E hfr hlo RET G hl
  have E : mE p s m meth c cX11_draw args 2 RX11 D K A := E
  have hl : lv_has ls 2 [(0, .ref (ad 386)), (1, .int 100)] := hl
  refine lv_aload_n E.1 E.2.1 dX11_draw_0 rfl (lv_at hl 0 rfl) ?_
  refine lv_aload_n E.1 E.2.1 dX11_draw_1 rfl (lv_at hl 0 rfl) ?_
  refine t_get E G 11 32 (rfl : ro 386 = 11) (C := RX11) (T := TX11) (N := 37) rfl (by decide) (by decide) (by decide) mw_fl_11_449 (fvl_J rfl) dX11_draw_2 ?_
  refine lv_topl (fun v1 e2 => ?_)
  refine lv_ldc2 (v := 1103515245) E.1 E.2.1 E.2.2.2.1 (E.2.2.2.2.1 _ mw_cL_11_453) dX11_draw_5 ?_
  refine lv_lmul E.1 E.2.1 dX11_draw_8 ?_
  refine lv_topl (fun v3 e4 => ?_)
  refine lv_ldc2 (v := 12345) E.1 E.2.1 E.2.2.2.1 (E.2.2.2.2.1 _ mw_cL_11_455) dX11_draw_9 ?_
  refine lv_ladd E.1 E.2.1 dX11_draw_12 ?_
  refine lv_topl (fun v5 e6 => ?_)
  refine lv_ldc2 (v := 2147483648) E.1 E.2.1 E.2.2.2.1 (E.2.2.2.2.1 _ mw_cL_11_457) dX11_draw_13 ?_
  refine lv_lrem E.1 E.2.1 dX11_draw_16 (by decide) ?_
  refine lv_topl (fun v7 e8 => ?_)
  refine t_putJ E G mw_fl_11_449 dX11_draw_17 (fun H locs G => ?_)
  obtain ⟨zz10, G, oo11, kk12, h9⟩ : ∃ u : TS, mG D A s H locs (wd K ad u) ∧ Ok u ∧ KD z u ∧ (tJ u = v7) := ⟨_, G, ok_J o, KD.tr KD.rf KD_J, rfl⟩
  refine lv_aload_n E.1 E.2.1 dX11_draw_20 rfl (lv_at hl 0 rfl) ?_
  refine t_get E G 11 32 (rfl : ro 386 = 11) (C := RX11) (T := TX11) (N := 37) rfl (by decide) (by decide) (by decide) mw_fl_11_449 (fvl_J rfl) dX11_draw_21 ?_
  refine lv_topl (fun v13 e14 => ?_)
  refine lv_ldc2 (v := 65536) E.1 E.2.1 E.2.2.2.1 (E.2.2.2.2.1 _ mw_cL_11_459) dX11_draw_24 ?_
  refine lv_ldiv E.1 E.2.1 dX11_draw_27 (by decide) ?_
  refine lv_topl (fun v15 e16 => ?_)
  refine lv_iload_n E.1 E.2.1 dX11_draw_28 rfl (lv_at hl 1 rfl) ?_
  refine lv_i2l E.1 E.2.1 dX11_draw_29 rfl ?_
  refine lv_topl (fun v17 e18 => ?_)
  refine lv_lrem E.1 E.2.1 dX11_draw_30 (by rw [e18]; exact i2l_ne (iv_lit (lo := 100) (hi := 100) 100 (by decide) (by decide)) (by decide)) ?_
  refine lv_topl (fun v19 e20 => ?_)
  refine lv_l2i E.1 E.2.1 dX11_draw_31 rfl ?_
  refine lv_topi (fun v21 e22 => ?_)
  have h23 := dr_1 hx e2 e4 e6 e8
  have h24 : dj zz10 := by unfold dj; rw [h9]; exact h23
  have b25 : iv 0 99 v21 := dr_2 (by rw [e14]; exact h24) e16 e18 (iv_lit (lo := 100) (hi := 100) 100 (by decide) (by decide)) (by decide) e20 e22 (by decide) (by decide)
  exact RET G ⟨oo11, kk12, (iv_mono b25 (by decide) (by decide)), h24⟩ rfl dX11_draw_32
set_option maxHeartbeats 4000000 in
set_option maxRecDepth 100000 in
theorem v_draw_6 (l : Launch) (D : va_G) (K : Nat → ClassId) (ad : Nat → Nat) (z : TS) (o : Ok z) (x1 : Int32) (bx1 : iv 1 6 x1) (hx : dj z) : cI l yX11_draw cX11_draw 2 .int ({ frames := 0, cells := 0, slots := 0, locals := 0 }) D K ad z [.ref (ad 386), .int x1] (fun r u => Ok u ∧ KD z u ∧ iv 0 5 r ∧ (dj u)) := by
  refine t_enterI (by decide) (Nat.le_of_ble_eq_true rfl) rfl rfl ?_
  intro p e s m args below meth c A R Q H locs ls E hfr hlo RET G hl
  have E : mE p s m meth c cX11_draw args 2 RX11 D K A := E
  have hl : lv_has ls 2 [(0, .ref (ad 386)), (1, .int x1)] := hl
  refine lv_aload_n E.1 E.2.1 dX11_draw_0 rfl (lv_at hl 0 rfl) ?_
  refine lv_aload_n E.1 E.2.1 dX11_draw_1 rfl (lv_at hl 0 rfl) ?_
  refine t_get E G 11 32 (rfl : ro 386 = 11) (C := RX11) (T := TX11) (N := 37) rfl (by decide) (by decide) (by decide) mw_fl_11_449 (fvl_J rfl) dX11_draw_2 ?_
  refine lv_topl (fun v1 e2 => ?_)
  refine lv_ldc2 (v := 1103515245) E.1 E.2.1 E.2.2.2.1 (E.2.2.2.2.1 _ mw_cL_11_453) dX11_draw_5 ?_
  refine lv_lmul E.1 E.2.1 dX11_draw_8 ?_
  refine lv_topl (fun v3 e4 => ?_)
  refine lv_ldc2 (v := 12345) E.1 E.2.1 E.2.2.2.1 (E.2.2.2.2.1 _ mw_cL_11_455) dX11_draw_9 ?_
  refine lv_ladd E.1 E.2.1 dX11_draw_12 ?_
  refine lv_topl (fun v5 e6 => ?_)
  refine lv_ldc2 (v := 2147483648) E.1 E.2.1 E.2.2.2.1 (E.2.2.2.2.1 _ mw_cL_11_457) dX11_draw_13 ?_
  refine lv_lrem E.1 E.2.1 dX11_draw_16 (by decide) ?_
  refine lv_topl (fun v7 e8 => ?_)
  refine t_putJ E G mw_fl_11_449 dX11_draw_17 (fun H locs G => ?_)
  obtain ⟨zz10, G, oo11, kk12, h9⟩ : ∃ u : TS, mG D A s H locs (wd K ad u) ∧ Ok u ∧ KD z u ∧ (tJ u = v7) := ⟨_, G, ok_J o, KD.tr KD.rf KD_J, rfl⟩
  refine lv_aload_n E.1 E.2.1 dX11_draw_20 rfl (lv_at hl 0 rfl) ?_
  refine t_get E G 11 32 (rfl : ro 386 = 11) (C := RX11) (T := TX11) (N := 37) rfl (by decide) (by decide) (by decide) mw_fl_11_449 (fvl_J rfl) dX11_draw_21 ?_
  refine lv_topl (fun v13 e14 => ?_)
  refine lv_ldc2 (v := 65536) E.1 E.2.1 E.2.2.2.1 (E.2.2.2.2.1 _ mw_cL_11_459) dX11_draw_24 ?_
  refine lv_ldiv E.1 E.2.1 dX11_draw_27 (by decide) ?_
  refine lv_topl (fun v15 e16 => ?_)
  refine lv_iload_n E.1 E.2.1 dX11_draw_28 rfl (lv_at hl 1 rfl) ?_
  refine lv_i2l E.1 E.2.1 dX11_draw_29 rfl ?_
  refine lv_topl (fun v17 e18 => ?_)
  refine lv_lrem E.1 E.2.1 dX11_draw_30 (by rw [e18]; exact i2l_ne bx1 (by decide)) ?_
  refine lv_topl (fun v19 e20 => ?_)
  refine lv_l2i E.1 E.2.1 dX11_draw_31 rfl ?_
  refine lv_topi (fun v21 e22 => ?_)
  have h23 := dr_1 hx e2 e4 e6 e8
  have h24 : dj zz10 := by unfold dj; rw [h9]; exact h23
  have b25 : iv 0 5 v21 := dr_2 (by rw [e14]; exact h24) e16 e18 bx1 (by decide) e20 e22 (by decide) (by decide)
  exact RET G ⟨oo11, kk12, (iv_mono b25 (by decide) (by decide)), h24⟩ rfl dX11_draw_32
set_option maxHeartbeats 4000000 in
set_option maxRecDepth 100000 in
theorem v_in_t (l : Launch) (D : va_G) (K : Nat → ClassId) (ad : Nat → Nat) (z : TS) (o : Ok z) (w1 : Int64) (w2 : Int64) (w3 : Int64) (hin : w2.toInt ≤ w1.toInt ∧ w1.toInt ≤ w3.toInt) : cI l yX11_in cX11_in 6 .boolean ({ frames := 0, cells := 0, slots := 0, locals := 0 }) D K ad z [.long w1, .long w2, .long w3] (fun r u => u = z ∧ iv 1 1 r) := by
  refine t_enterI (by decide) (Nat.le_of_ble_eq_true rfl) rfl rfl ?_
  intro p e s m args below meth c A R Q H locs ls E hfr hlo RET G hl
  have E : mE p s m meth c cX11_in args 6 RX11 D K A := E
  have hl : lv_has ls 6 [(0, .long w1), (2, .long w2), (4, .long w3)] := hl
  refine lv_lload_n E.1 E.2.1 dX11_in_0 rfl (lv_at hl 0 rfl) ?_
  refine lv_lload_n E.1 E.2.1 dX11_in_1 rfl (lv_at hl 1 rfl) ?_
  refine W.lcmp E.1 E.2.1 dX11_in_2 ?_
  refine lv_topi (fun v1 e2 => ?_)
  have b3 : iv (-1) 1 v1 := by rw [e2]; exact lgc_iv _ _
  refine lv_if_lt (tgt := 17) E.1 E.2.1 dX11_in_3 (by decide) (fun h => absurd h (lg_nlt e2 hin.1)) (fun _ => ?_)
  refine lv_lload_n E.1 E.2.1 dX11_in_6 rfl (lv_at hl 0 rfl) ?_
  refine lv_lload E.1 E.2.1 dX11_in_7 (lv_at hl 2 rfl) ?_
  refine W.lcmp E.1 E.2.1 dX11_in_9 ?_
  refine lv_topi (fun v4 e5 => ?_)
  have b6 : iv (-1) 1 v4 := by rw [e5]; exact lgc_iv _ _
  refine lv_if_gt (tgt := 17) E.1 E.2.1 dX11_in_10 (by decide) (fun h => absurd h (lg_ngt e5 hin.2)) (fun _ => ?_)
  refine lv_iconst (v := 1) E.1 E.2.1 dX11_in_13 (by decide) ?_
  refine lv_goto (tgt := 18) E.1 E.2.1 dX11_in_14 (by decide) ?_
  exact RET G ⟨rfl, (iv_mono (iv_lit (lo := 1) (hi := 1) 1 (by decide) (by decide)) (by decide) (by decide))⟩ (by decide) dX11_in_18
set_option maxHeartbeats 4000000 in
set_option maxRecDepth 100000 in
theorem v_in_lo (l : Launch) (D : va_G) (K : Nat → ClassId) (ad : Nat → Nat) (z : TS) (o : Ok z) (w1 : Int64) (w2 : Int64) (w3 : Int64) (hin : w1.toInt < w2.toInt) : cI l yX11_in cX11_in 6 .boolean ({ frames := 0, cells := 0, slots := 0, locals := 0 }) D K ad z [.long w1, .long w2, .long w3] (fun r u => u = z ∧ iv 0 0 r) := by
  refine t_enterI (by decide) (Nat.le_of_ble_eq_true rfl) rfl rfl ?_
  intro p e s m args below meth c A R Q H locs ls E hfr hlo RET G hl
  have E : mE p s m meth c cX11_in args 6 RX11 D K A := E
  have hl : lv_has ls 6 [(0, .long w1), (2, .long w2), (4, .long w3)] := hl
  refine lv_lload_n E.1 E.2.1 dX11_in_0 rfl (lv_at hl 0 rfl) ?_
  refine lv_lload_n E.1 E.2.1 dX11_in_1 rfl (lv_at hl 1 rfl) ?_
  refine W.lcmp E.1 E.2.1 dX11_in_2 ?_
  refine lv_topi (fun v1 e2 => ?_)
  have b3 : iv (-1) 1 v1 := by rw [e2]; exact lgc_iv _ _
  refine lv_if_lt (tgt := 17) E.1 E.2.1 dX11_in_3 (by decide) (fun _ => ?_) (fun h => absurd (lg_lt e2 hin) h)
  refine lv_iconst (v := 0) E.1 E.2.1 dX11_in_17 (by decide) ?_
  exact RET G ⟨rfl, (iv_mono (iv_lit (lo := 0) (hi := 0) 0 (by decide) (by decide)) (by decide) (by decide))⟩ (by decide) dX11_in_18
set_option maxHeartbeats 4000000 in
set_option maxRecDepth 100000 in
theorem v_in_hi (l : Launch) (D : va_G) (K : Nat → ClassId) (ad : Nat → Nat) (z : TS) (o : Ok z) (w1 : Int64) (w2 : Int64) (w3 : Int64) (hin : w2.toInt ≤ w1.toInt ∧ w3.toInt < w1.toInt) : cI l yX11_in cX11_in 6 .boolean ({ frames := 0, cells := 0, slots := 0, locals := 0 }) D K ad z [.long w1, .long w2, .long w3] (fun r u => u = z ∧ iv 0 0 r) := by
  refine t_enterI (by decide) (Nat.le_of_ble_eq_true rfl) rfl rfl ?_
  intro p e s m args below meth c A R Q H locs ls E hfr hlo RET G hl
  have E : mE p s m meth c cX11_in args 6 RX11 D K A := E
  have hl : lv_has ls 6 [(0, .long w1), (2, .long w2), (4, .long w3)] := hl
  refine lv_lload_n E.1 E.2.1 dX11_in_0 rfl (lv_at hl 0 rfl) ?_
  refine lv_lload_n E.1 E.2.1 dX11_in_1 rfl (lv_at hl 1 rfl) ?_
  refine W.lcmp E.1 E.2.1 dX11_in_2 ?_
  refine lv_topi (fun v1 e2 => ?_)
  have b3 : iv (-1) 1 v1 := by rw [e2]; exact lgc_iv _ _
  refine lv_if_lt (tgt := 17) E.1 E.2.1 dX11_in_3 (by decide) (fun h => absurd h (lg_nlt e2 hin.1)) (fun _ => ?_)
  refine lv_lload_n E.1 E.2.1 dX11_in_6 rfl (lv_at hl 0 rfl) ?_
  refine lv_lload E.1 E.2.1 dX11_in_7 (lv_at hl 2 rfl) ?_
  refine W.lcmp E.1 E.2.1 dX11_in_9 ?_
  refine lv_topi (fun v4 e5 => ?_)
  have b6 : iv (-1) 1 v4 := by rw [e5]; exact lgc_iv _ _
  refine lv_if_gt (tgt := 17) E.1 E.2.1 dX11_in_10 (by decide) (fun _ => ?_) (fun h => absurd (lg_gt e5 hin.2) h)
  refine lv_iconst (v := 0) E.1 E.2.1 dX11_in_17 (by decide) ?_
  exact RET G ⟨rfl, (iv_mono (iv_lit (lo := 0) (hi := 0) 0 (by decide) (by decide)) (by decide) (by decide))⟩ (by decide) dX11_in_18
