theorem dX10_seed_0 : decode cX10_seed 0 = .ok (.iload_n 1, 1) := by decide +kernel
theorem dX10_seed_1 : decode cX10_seed 1 = .ok (.ifCond .ge 5, 3) := by decide +kernel
theorem dX10_seed_4 : decode cX10_seed 4 = .ok (.iconst (-1), 1) := by decide +kernel
theorem dX10_seed_5 : decode cX10_seed 5 = .ok (.ireturn, 1) := by decide +kernel
theorem dX10_seed_6 : decode cX10_seed 6 = .ok (.aload_n 0, 1) := by decide +kernel
theorem dX10_seed_7 : decode cX10_seed 7 = .ok (.getfield 55, 3) := by decide +kernel
theorem dX10_seed_10 : decode cX10_seed 10 = .ok (.getfield 216, 3) := by decide +kernel
theorem dX10_seed_13 : decode cX10_seed 13 = .ok (.istore_n 2, 1) := by decide +kernel
theorem dX10_seed_14 : decode cX10_seed 14 = .ok (.aload_n 0, 1) := by decide +kernel
theorem dX10_seed_15 : decode cX10_seed 15 = .ok (.getfield 55, 3) := by decide +kernel
theorem dX10_seed_18 : decode cX10_seed 18 = .ok (.iload_n 1, 1) := by decide +kernel
theorem dX10_seed_19 : decode cX10_seed 19 = .ok (.putfield 216, 3) := by decide +kernel
theorem dX10_seed_22 : decode cX10_seed 22 = .ok (.iload_n 2, 1) := by decide +kernel
theorem dX10_seed_23 : decode cX10_seed 23 = .ok (.ireturn, 1) := by decide +kernel
set_option maxHeartbeats 4000000 in
set_option maxRecDepth 100000 in
theorem k_seed (l : Launch) (D : va_G) (K : Nat → ClassId) (ad : Nat → Nat) (z : TS) (o : Ok z) (x1 : Int32) (bx1 : iv 0 2147483647 x1) : cI l yX10_seed cX10_seed 3 .int ({ frames := 0, cells := 0, slots := 0, locals := 0 }) D K ad z [.ref (ad 0), .int x1] (fun r u => Ok u ∧ r = tI z 56 4 ∧ KXp z 56 x1 u) := by
  refine t_enterI (by decide) (Nat.le_of_ble_eq_true rfl) rfl rfl ?_
  intro p e s m args below meth c A R Q H locs ls E hfr hlo RET G hl
  have E : mE p s m meth c cX10_seed args 3 RX10 D K A := E
  have hl : lv_has ls 3 [(0, .ref (ad 0)), (1, .int x1)] := hl
  refine lv_iload_n E.1 E.2.1 dX10_seed_0 rfl (lv_at hl 1 rfl) ?_
  refine lv_if_ge (tgt := 6) E.1 E.2.1 dX10_seed_1 (by decide) (fun _ => ?_) (fun h => absurd (ivle (iv_lit (lo := 0) (hi := 0) 0 (by decide) (by decide)) bx1 (by decide)) h)
  refine lv_aload_n E.1 E.2.1 dX10_seed_6 rfl (lv_at hl 0 rfl) ?_
  refine t_get E G 10 7 (rfl : ro 0 = 10) (C := RX10) (T := TX10) (N := 17) rfl (by decide) (by decide) (by decide) mw_fl_10_55 (v := .ref (ad 56)) (fvl_o (n := 56) rfl) dX10_seed_7 ?_
  refine t_get E G 2 4 (rfl : ro 56 = 2) (C := RX2) (T := TX2) (N := 5) rfl (by decide) (by decide) (by decide) mw_fl_10_216 (fvl_i rfl) dX10_seed_10 ?_
  refine lv_topi (fun v1 e2 => ?_)
  have b3 : iv 0 2147483647 v1 := by rw [e2]; exact o.i 2 4 (rfl : ro 56 = 2)
  refine lv_istore_n (lv' := [(2, .int v1), (0, .ref (ad 0)), (1, .int x1)]) E.1 E.2.1 dX10_seed_13 rfl hl (by decide) rfl (fun ls hl => ?_)
  refine lv_aload_n E.1 E.2.1 dX10_seed_14 rfl (lv_at hl 1 rfl) ?_
  refine t_get E G 10 7 (rfl : ro 0 = 10) (C := RX10) (T := TX10) (N := 17) rfl (by decide) (by decide) (by decide) mw_fl_10_55 (v := .ref (ad 56)) (fvl_o (n := 56) rfl) dX10_seed_15 ?_
  refine lv_iload_n E.1 E.2.1 dX10_seed_18 rfl (lv_at hl 2 rfl) ?_
  refine t_puti E G 2 4 (rfl : ro 56 = 2) (C := RX2) (T := TX2) (N := 5) rfl (by decide) (by decide) (by decide) rfl rfl mw_fl_10_216 rfl dX10_seed_19 (fun H locs G => ?_)
  obtain ⟨zz4, G, oo5, kx6⟩ : ∃ u : TS, mG D A s H locs (wd K ad u) ∧ Ok u ∧ KXp z 56 x1 u := ⟨_, G, ok_i o 2 (rfl : ro 56 = 2) (iv_mono bx1 (by decide) (by decide)) (by decide), KXp.of KC.rf⟩
  refine lv_iload_n E.1 E.2.1 dX10_seed_22 rfl (lv_at hl 0 rfl) ?_
  exact RET G ⟨oo5, e2, kx6⟩ rfl dX10_seed_23
set_option maxHeartbeats 4000000 in
set_option maxRecDepth 100000 in
theorem k_seed_n (l : Launch) (D : va_G) (K : Nat → ClassId) (ad : Nat → Nat) (z : TS) (o : Ok z) (x1 : Int32) (bx1 : iv (-2147483648) (-1) x1) : cI l yX10_seed cX10_seed 3 .int ({ frames := 0, cells := 0, slots := 0, locals := 0 }) D K ad z [.ref (ad 0), .int x1] (fun r u => u = z ∧ iv (-1) (-1) r) := by
  refine t_enterI (by decide) (Nat.le_of_ble_eq_true rfl) rfl rfl ?_
  intro p e s m args below meth c A R Q H locs ls E hfr hlo RET G hl
  have E : mE p s m meth c cX10_seed args 3 RX10 D K A := E
  have hl : lv_has ls 3 [(0, .ref (ad 0)), (1, .int x1)] := hl
  refine lv_iload_n E.1 E.2.1 dX10_seed_0 rfl (lv_at hl 1 rfl) ?_
  refine lv_if_ge (tgt := 6) E.1 E.2.1 dX10_seed_1 (by decide) (fun h => absurd h (ivnle (iv_lit (lo := 0) (hi := 0) 0 (by decide) (by decide)) bx1 (by decide))) (fun _ => ?_)
  refine lv_iconst (v := (-1)) E.1 E.2.1 dX10_seed_4 (by decide) ?_
  exact RET G ⟨rfl, (iv_mono (iv_lit (lo := (-1)) (hi := (-1)) (-1) (by decide) (by decide)) (by decide) (by decide))⟩ rfl dX10_seed_5
