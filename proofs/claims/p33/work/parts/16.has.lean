theorem mw_fl_10_114 : (Cond.fieldLink RX10 114 "LureTown$Moment" "place" "LLureTown$Town;" : Cond) ∈ cw := cw_of (List.mem_append_right _ (List.mem_append_right _ (List.mem_append_left _ (List.mem_of_getElem? (i := 52) (by decide +kernel))))) (by decide +kernel)
theorem mw_fl_10_140 : (Cond.fieldLink RX10 140 "LureTown$Town" "walkerCount" "I" : Cond) ∈ cw := cw_of (List.mem_append_right _ (List.mem_append_left _ (List.mem_of_getElem? (i := 147) (by decide +kernel)))) (by decide +kernel)
theorem mw_fl_10_192 : (Cond.fieldLink RX10 192 "LureTown$Town" "cornerCount" "I" : Cond) ∈ cw := cw_of (List.mem_append_right _ (List.mem_append_left _ (List.mem_of_getElem? (i := 137) (by decide +kernel)))) (by decide +kernel)
theorem mw_fl_10_198 : (Cond.fieldLink RX10 198 "LureTown$Town" "lureCount" "I" : Cond) ∈ cw := cw_of (List.mem_append_right _ (List.mem_append_left _ (List.mem_of_getElem? (i := 143) (by decide +kernel)))) (by decide +kernel)
theorem mw_fl_10_55 : (Cond.fieldLink RX10 55 "LureTown" "now" "LLureTown$Moment;" : Cond) ∈ cw := cw_of (List.mem_append_right _ (List.mem_append_right _ (List.mem_append_left _ (List.mem_of_getElem? (i := 135) (by decide +kernel))))) (by decide +kernel)
theorem dX10_hasCorner_0 : decode cX10_hasCorner 0 = .ok (.iload_n 1, 1) := by decide +kernel
theorem dX10_hasCorner_1 : decode cX10_hasCorner 1 = .ok (.ifCond .lt 21, 3) := by decide +kernel
theorem dX10_hasCorner_4 : decode cX10_hasCorner 4 = .ok (.iload_n 1, 1) := by decide +kernel
theorem dX10_hasCorner_5 : decode cX10_hasCorner 5 = .ok (.aload_n 0, 1) := by decide +kernel
theorem dX10_hasCorner_6 : decode cX10_hasCorner 6 = .ok (.getfield 55, 3) := by decide +kernel
theorem dX10_hasCorner_9 : decode cX10_hasCorner 9 = .ok (.getfield 114, 3) := by decide +kernel
theorem dX10_hasCorner_12 : decode cX10_hasCorner 12 = .ok (.getfield 192, 3) := by decide +kernel
theorem dX10_hasCorner_15 : decode cX10_hasCorner 15 = .ok (.if_icmp .ge 7, 3) := by decide +kernel
theorem dX10_hasCorner_18 : decode cX10_hasCorner 18 = .ok (.iconst 1, 1) := by decide +kernel
theorem dX10_hasCorner_19 : decode cX10_hasCorner 19 = .ok (.goto 4, 3) := by decide +kernel
theorem dX10_hasCorner_22 : decode cX10_hasCorner 22 = .ok (.iconst 0, 1) := by decide +kernel
theorem dX10_hasCorner_23 : decode cX10_hasCorner 23 = .ok (.ireturn, 1) := by decide +kernel
theorem dX10_hasLure_0 : decode cX10_hasLure 0 = .ok (.iload_n 1, 1) := by decide +kernel
theorem dX10_hasLure_1 : decode cX10_hasLure 1 = .ok (.ifCond .lt 21, 3) := by decide +kernel
theorem dX10_hasLure_4 : decode cX10_hasLure 4 = .ok (.iload_n 1, 1) := by decide +kernel
theorem dX10_hasLure_5 : decode cX10_hasLure 5 = .ok (.aload_n 0, 1) := by decide +kernel
theorem dX10_hasLure_6 : decode cX10_hasLure 6 = .ok (.getfield 55, 3) := by decide +kernel
theorem dX10_hasLure_9 : decode cX10_hasLure 9 = .ok (.getfield 114, 3) := by decide +kernel
theorem dX10_hasLure_12 : decode cX10_hasLure 12 = .ok (.getfield 198, 3) := by decide +kernel
theorem dX10_hasLure_15 : decode cX10_hasLure 15 = .ok (.if_icmp .ge 7, 3) := by decide +kernel
theorem dX10_hasLure_18 : decode cX10_hasLure 18 = .ok (.iconst 1, 1) := by decide +kernel
theorem dX10_hasLure_19 : decode cX10_hasLure 19 = .ok (.goto 4, 3) := by decide +kernel
theorem dX10_hasLure_22 : decode cX10_hasLure 22 = .ok (.iconst 0, 1) := by decide +kernel
theorem dX10_hasLure_23 : decode cX10_hasLure 23 = .ok (.ireturn, 1) := by decide +kernel
theorem dX10_hasTown_0 : decode cX10_hasTown 0 = .ok (.aload_n 0, 1) := by decide +kernel
theorem dX10_hasTown_1 : decode cX10_hasTown 1 = .ok (.getfield 55, 3) := by decide +kernel
theorem dX10_hasTown_4 : decode cX10_hasTown 4 = .ok (.getfield 114, 3) := by decide +kernel
theorem dX10_hasTown_7 : decode cX10_hasTown 7 = .ok (.getfield 192, 3) := by decide +kernel
theorem dX10_hasTown_10 : decode cX10_hasTown 10 = .ok (.ifCond .le 7, 3) := by decide +kernel
theorem dX10_hasTown_13 : decode cX10_hasTown 13 = .ok (.iconst 1, 1) := by decide +kernel
theorem dX10_hasTown_14 : decode cX10_hasTown 14 = .ok (.goto 4, 3) := by decide +kernel
theorem dX10_hasTown_17 : decode cX10_hasTown 17 = .ok (.iconst 0, 1) := by decide +kernel
theorem dX10_hasTown_18 : decode cX10_hasTown 18 = .ok (.ireturn, 1) := by decide +kernel
theorem dX10_hasWalker_0 : decode cX10_hasWalker 0 = .ok (.iload_n 1, 1) := by decide +kernel
theorem dX10_hasWalker_1 : decode cX10_hasWalker 1 = .ok (.ifCond .lt 21, 3) := by decide +kernel
theorem dX10_hasWalker_4 : decode cX10_hasWalker 4 = .ok (.iload_n 1, 1) := by decide +kernel
theorem dX10_hasWalker_5 : decode cX10_hasWalker 5 = .ok (.aload_n 0, 1) := by decide +kernel
theorem dX10_hasWalker_6 : decode cX10_hasWalker 6 = .ok (.getfield 55, 3) := by decide +kernel
theorem dX10_hasWalker_9 : decode cX10_hasWalker 9 = .ok (.getfield 114, 3) := by decide +kernel
theorem dX10_hasWalker_12 : decode cX10_hasWalker 12 = .ok (.getfield 140, 3) := by decide +kernel
theorem dX10_hasWalker_15 : decode cX10_hasWalker 15 = .ok (.if_icmp .ge 7, 3) := by decide +kernel
theorem dX10_hasWalker_18 : decode cX10_hasWalker 18 = .ok (.iconst 1, 1) := by decide +kernel
theorem dX10_hasWalker_19 : decode cX10_hasWalker 19 = .ok (.goto 4, 3) := by decide +kernel
theorem dX10_hasWalker_22 : decode cX10_hasWalker 22 = .ok (.iconst 0, 1) := by decide +kernel
theorem dX10_hasWalker_23 : decode cX10_hasWalker 23 = .ok (.ireturn, 1) := by decide +kernel
set_option maxHeartbeats 4000000 in
set_option maxRecDepth 100000 in
theorem h_town (l : Launch) (D : va_G) (K : Nat → ClassId) (ad : Nat → Nat) (z : TS) (o : Ok z) : cI l yX10_hasTown cX10_hasTown 1 .boolean ({ frames := 0, cells := 0, slots := 0, locals := 0 }) D K ad z [.ref (ad 0)] (fun r u => u = z ∧ iv 0 1 r) := by
  refine t_enterI (by decide) (Nat.le_of_ble_eq_true rfl) rfl rfl ?_
  intro p e s m args below meth c A R Q H locs ls E hfr hlo RET G hl
  have E : mE p s m meth c cX10_hasTown args 1 RX10 D K A := E
  have hl : lv_has ls 1 [(0, .ref (ad 0))] := hl
  refine lv_aload_n E.1 E.2.1 dX10_hasTown_0 rfl (lv_at hl 0 rfl) ?_
  refine t_get E G 10 7 (rfl : ro 0 = 10) (C := RX10) (T := TX10) (N := 17) rfl (by decide) (by decide) (by decide) mw_fl_10_55 (v := .ref (ad 56)) (fvl_o (n := 56) rfl) dX10_hasTown_1 ?_
  refine t_get E G 2 0 (rfl : ro 56 = 2) (C := RX2) (T := TX2) (N := 5) rfl (by decide) (by decide) (by decide) mw_fl_10_114 (v := .ref (ad 57)) (fvl_o (n := 1) rfl) dX10_hasTown_4 ?_
  refine t_get E G 8 0 (rfl : ro 57 = 8) (C := RX8) (T := TX8) (N := 10) rfl (by decide) (by decide) (by decide) mw_fl_10_192 (fvl_i rfl) dX10_hasTown_7 ?_
  refine lv_topi (fun v1 e2 => ?_)
  have b3 : iv 0 8 v1 := by rw [e2]; exact o.i 8 0 (rfl : ro 57 = 8)
  refine lv_if_le (tgt := 17) E.1 E.2.1 dX10_hasTown_10 (by decide) (fun c4 => ?_) (fun c4 => ?_)
  · skip
    have b5 : iv 0 0 v1 := le_l c4 b3 (iv_lit (lo := 0) (hi := 0) 0 (by decide) (by decide)) (by decide)
    refine lv_iconst (v := 0) E.1 E.2.1 dX10_hasTown_17 (by decide) ?_
    exact RET G ⟨rfl, (iv_mono (iv_lit (lo := 0) (hi := 0) 0 (by decide) (by decide)) (by decide) (by decide))⟩ (by decide) dX10_hasTown_18
  · skip
    have b6 : iv 1 8 v1 := lt_r (Int32.not_le.mp c4) (iv_lit (lo := 0) (hi := 0) 0 (by decide) (by decide)) b3 (by decide)
    refine lv_iconst (v := 1) E.1 E.2.1 dX10_hasTown_13 (by decide) ?_
    refine lv_goto (tgt := 18) E.1 E.2.1 dX10_hasTown_14 (by decide) ?_
    exact RET G ⟨rfl, (iv_mono (iv_lit (lo := 1) (hi := 1) 1 (by decide) (by decide)) (by decide) (by decide))⟩ (by decide) dX10_hasTown_18
set_option maxHeartbeats 4000000 in
set_option maxRecDepth 100000 in
theorem h_corner (l : Launch) (D : va_G) (K : Nat → ClassId) (ad : Nat → Nat) (z : TS) (o : Ok z) (x1 : Int32) : cI l yX10_hasCorner cX10_hasCorner 2 .boolean ({ frames := 0, cells := 0, slots := 0, locals := 0 }) D K ad z [.ref (ad 0), .int x1] (fun r u => u = z ∧ iv 0 1 r ∧ (¬ r = 0 → iv 0 7 x1)) := by
  refine t_enterI (by decide) (Nat.le_of_ble_eq_true rfl) rfl rfl ?_
  intro p e s m args below meth c A R Q H locs ls E hfr hlo RET G hl
  have E : mE p s m meth c cX10_hasCorner args 2 RX10 D K A := E
  have hl : lv_has ls 2 [(0, .ref (ad 0)), (1, .int x1)] := hl
  refine lv_iload_n E.1 E.2.1 dX10_hasCorner_0 rfl (lv_at hl 1 rfl) ?_
  refine lv_if_lt (tgt := 22) E.1 E.2.1 dX10_hasCorner_1 (by decide) (fun c1 => ?_) (fun c1 => ?_)
  · skip
    have b2 : iv (-2147483648) (-1) x1 := lt_l c1 (iv_full x1) (iv_lit (lo := 0) (hi := 0) 0 (by decide) (by decide)) (by decide)
    refine lv_iconst (v := 0) E.1 E.2.1 dX10_hasCorner_22 (by decide) ?_
    exact RET G ⟨rfl, (iv_mono (iv_lit (lo := 0) (hi := 0) 0 (by decide) (by decide)) (by decide) (by decide)), (fun h => absurd rfl h)⟩ (by decide) dX10_hasCorner_23
  · skip
    have b3 : iv 0 2147483647 x1 := le_r (Int32.not_lt.mp c1) (iv_lit (lo := 0) (hi := 0) 0 (by decide) (by decide)) (iv_full x1) (by decide)
    refine lv_iload_n E.1 E.2.1 dX10_hasCorner_4 rfl (lv_at hl 1 rfl) ?_
    refine lv_aload_n E.1 E.2.1 dX10_hasCorner_5 rfl (lv_at hl 0 rfl) ?_
    refine t_get E G 10 7 (rfl : ro 0 = 10) (C := RX10) (T := TX10) (N := 17) rfl (by decide) (by decide) (by decide) mw_fl_10_55 (v := .ref (ad 56)) (fvl_o (n := 56) rfl) dX10_hasCorner_6 ?_
    refine t_get E G 2 0 (rfl : ro 56 = 2) (C := RX2) (T := TX2) (N := 5) rfl (by decide) (by decide) (by decide) mw_fl_10_114 (v := .ref (ad 57)) (fvl_o (n := 1) rfl) dX10_hasCorner_9 ?_
    refine t_get E G 8 0 (rfl : ro 57 = 8) (C := RX8) (T := TX8) (N := 10) rfl (by decide) (by decide) (by decide) mw_fl_10_192 (fvl_i rfl) dX10_hasCorner_12 ?_
    refine lv_topi (fun v4 e5 => ?_)
    have b6 : iv 0 8 v4 := by rw [e5]; exact o.i 8 0 (rfl : ro 57 = 8)
    refine lv_icmp_ge (tgt := 22) E.1 E.2.1 dX10_hasCorner_15 (by decide) (fun c7 => ?_) (fun c7 => ?_)
    · skip
      refine lv_iconst (v := 0) E.1 E.2.1 dX10_hasCorner_22 (by decide) ?_
      exact RET G ⟨rfl, (iv_mono (iv_lit (lo := 0) (hi := 0) 0 (by decide) (by decide)) (by decide) (by decide)), (fun h => absurd rfl h)⟩ (by decide) dX10_hasCorner_23
    · skip
      have b8 : iv 0 7 x1 := lt_l (Int32.not_le.mp c7) b3 b6 (by decide)
      have b9 : iv 1 8 v4 := lt_r (Int32.not_le.mp c7) b3 b6 (by decide)
      refine lv_iconst (v := 1) E.1 E.2.1 dX10_hasCorner_18 (by decide) ?_
      refine lv_goto (tgt := 23) E.1 E.2.1 dX10_hasCorner_19 (by decide) ?_
      exact RET G ⟨rfl, (iv_mono (iv_lit (lo := 1) (hi := 1) 1 (by decide) (by decide)) (by decide) (by decide)), (fun _ => iv_mono b8 (by decide) (by decide))⟩ (by decide) dX10_hasCorner_23
set_option maxHeartbeats 4000000 in
set_option maxRecDepth 100000 in
theorem h_lure (l : Launch) (D : va_G) (K : Nat → ClassId) (ad : Nat → Nat) (z : TS) (o : Ok z) (x1 : Int32) : cI l yX10_hasLure cX10_hasLure 2 .boolean ({ frames := 0, cells := 0, slots := 0, locals := 0 }) D K ad z [.ref (ad 0), .int x1] (fun r u => u = z ∧ iv 0 1 r ∧ (¬ r = 0 → iv 0 5 x1)) := by
  refine t_enterI (by decide) (Nat.le_of_ble_eq_true rfl) rfl rfl ?_
  intro p e s m args below meth c A R Q H locs ls E hfr hlo RET G hl
  have E : mE p s m meth c cX10_hasLure args 2 RX10 D K A := E
  have hl : lv_has ls 2 [(0, .ref (ad 0)), (1, .int x1)] := hl
  refine lv_iload_n E.1 E.2.1 dX10_hasLure_0 rfl (lv_at hl 1 rfl) ?_
  refine lv_if_lt (tgt := 22) E.1 E.2.1 dX10_hasLure_1 (by decide) (fun c1 => ?_) (fun c1 => ?_)
  · skip
    have b2 : iv (-2147483648) (-1) x1 := lt_l c1 (iv_full x1) (iv_lit (lo := 0) (hi := 0) 0 (by decide) (by decide)) (by decide)
    refine lv_iconst (v := 0) E.1 E.2.1 dX10_hasLure_22 (by decide) ?_
    exact RET G ⟨rfl, (iv_mono (iv_lit (lo := 0) (hi := 0) 0 (by decide) (by decide)) (by decide) (by decide)), (fun h => absurd rfl h)⟩ (by decide) dX10_hasLure_23
  · skip
    have b3 : iv 0 2147483647 x1 := le_r (Int32.not_lt.mp c1) (iv_lit (lo := 0) (hi := 0) 0 (by decide) (by decide)) (iv_full x1) (by decide)
    refine lv_iload_n E.1 E.2.1 dX10_hasLure_4 rfl (lv_at hl 1 rfl) ?_
    refine lv_aload_n E.1 E.2.1 dX10_hasLure_5 rfl (lv_at hl 0 rfl) ?_
    refine t_get E G 10 7 (rfl : ro 0 = 10) (C := RX10) (T := TX10) (N := 17) rfl (by decide) (by decide) (by decide) mw_fl_10_55 (v := .ref (ad 56)) (fvl_o (n := 56) rfl) dX10_hasLure_6 ?_
    refine t_get E G 2 0 (rfl : ro 56 = 2) (C := RX2) (T := TX2) (N := 5) rfl (by decide) (by decide) (by decide) mw_fl_10_114 (v := .ref (ad 57)) (fvl_o (n := 1) rfl) dX10_hasLure_9 ?_
    refine t_get E G 8 2 (rfl : ro 57 = 8) (C := RX8) (T := TX8) (N := 10) rfl (by decide) (by decide) (by decide) mw_fl_10_198 (fvl_i rfl) dX10_hasLure_12 ?_
    refine lv_topi (fun v4 e5 => ?_)
    have b6 : iv 0 6 v4 := by rw [e5]; exact o.i 8 2 (rfl : ro 57 = 8)
    refine lv_icmp_ge (tgt := 22) E.1 E.2.1 dX10_hasLure_15 (by decide) (fun c7 => ?_) (fun c7 => ?_)
    · skip
      refine lv_iconst (v := 0) E.1 E.2.1 dX10_hasLure_22 (by decide) ?_
      exact RET G ⟨rfl, (iv_mono (iv_lit (lo := 0) (hi := 0) 0 (by decide) (by decide)) (by decide) (by decide)), (fun h => absurd rfl h)⟩ (by decide) dX10_hasLure_23
    · skip
      have b8 : iv 0 5 x1 := lt_l (Int32.not_le.mp c7) b3 b6 (by decide)
      have b9 : iv 1 6 v4 := lt_r (Int32.not_le.mp c7) b3 b6 (by decide)
      refine lv_iconst (v := 1) E.1 E.2.1 dX10_hasLure_18 (by decide) ?_
      refine lv_goto (tgt := 23) E.1 E.2.1 dX10_hasLure_19 (by decide) ?_
      exact RET G ⟨rfl, (iv_mono (iv_lit (lo := 1) (hi := 1) 1 (by decide) (by decide)) (by decide) (by decide)), (fun _ => iv_mono b8 (by decide) (by decide))⟩ (by decide) dX10_hasLure_23
set_option maxHeartbeats 4000000 in
set_option maxRecDepth 100000 in
theorem h_walker (l : Launch) (D : va_G) (K : Nat → ClassId) (ad : Nat → Nat) (z : TS) (o : Ok z) (x1 : Int32) : cI l yX10_hasWalker cX10_hasWalker 2 .boolean ({ frames := 0, cells := 0, slots := 0, locals := 0 }) D K ad z [.ref (ad 0), .int x1] (fun r u => u = z ∧ iv 0 1 r ∧ (¬ r = 0 → iv 0 4 x1)) := by
  refine t_enterI (by decide) (Nat.le_of_ble_eq_true rfl) rfl rfl ?_
  intro p e s m args below meth c A R Q H locs ls E hfr hlo RET G hl
  have E : mE p s m meth c cX10_hasWalker args 2 RX10 D K A := E
  have hl : lv_has ls 2 [(0, .ref (ad 0)), (1, .int x1)] := hl
  refine lv_iload_n E.1 E.2.1 dX10_hasWalker_0 rfl (lv_at hl 1 rfl) ?_
  refine lv_if_lt (tgt := 22) E.1 E.2.1 dX10_hasWalker_1 (by decide) (fun c1 => ?_) (fun c1 => ?_)
  · skip
    have b2 : iv (-2147483648) (-1) x1 := lt_l c1 (iv_full x1) (iv_lit (lo := 0) (hi := 0) 0 (by decide) (by decide)) (by decide)
    refine lv_iconst (v := 0) E.1 E.2.1 dX10_hasWalker_22 (by decide) ?_
    exact RET G ⟨rfl, (iv_mono (iv_lit (lo := 0) (hi := 0) 0 (by decide) (by decide)) (by decide) (by decide)), (fun h => absurd rfl h)⟩ (by decide) dX10_hasWalker_23
  · skip
    have b3 : iv 0 2147483647 x1 := le_r (Int32.not_lt.mp c1) (iv_lit (lo := 0) (hi := 0) 0 (by decide) (by decide)) (iv_full x1) (by decide)
    refine lv_iload_n E.1 E.2.1 dX10_hasWalker_4 rfl (lv_at hl 1 rfl) ?_
    refine lv_aload_n E.1 E.2.1 dX10_hasWalker_5 rfl (lv_at hl 0 rfl) ?_
    refine t_get E G 10 7 (rfl : ro 0 = 10) (C := RX10) (T := TX10) (N := 17) rfl (by decide) (by decide) (by decide) mw_fl_10_55 (v := .ref (ad 56)) (fvl_o (n := 56) rfl) dX10_hasWalker_6 ?_
    refine t_get E G 2 0 (rfl : ro 56 = 2) (C := RX2) (T := TX2) (N := 5) rfl (by decide) (by decide) (by decide) mw_fl_10_114 (v := .ref (ad 57)) (fvl_o (n := 1) rfl) dX10_hasWalker_9 ?_
    refine t_get E G 8 3 (rfl : ro 57 = 8) (C := RX8) (T := TX8) (N := 10) rfl (by decide) (by decide) (by decide) mw_fl_10_140 (fvl_i rfl) dX10_hasWalker_12 ?_
    refine lv_topi (fun v4 e5 => ?_)
    have b6 : iv 0 5 v4 := by rw [e5]; exact o.i 8 3 (rfl : ro 57 = 8)
    refine lv_icmp_ge (tgt := 22) E.1 E.2.1 dX10_hasWalker_15 (by decide) (fun c7 => ?_) (fun c7 => ?_)
    · skip
      refine lv_iconst (v := 0) E.1 E.2.1 dX10_hasWalker_22 (by decide) ?_
      exact RET G ⟨rfl, (iv_mono (iv_lit (lo := 0) (hi := 0) 0 (by decide) (by decide)) (by decide) (by decide)), (fun h => absurd rfl h)⟩ (by decide) dX10_hasWalker_23
    · skip
      have b8 : iv 0 4 x1 := lt_l (Int32.not_le.mp c7) b3 b6 (by decide)
      have b9 : iv 1 5 v4 := lt_r (Int32.not_le.mp c7) b3 b6 (by decide)
      refine lv_iconst (v := 1) E.1 E.2.1 dX10_hasWalker_18 (by decide) ?_
      refine lv_goto (tgt := 23) E.1 E.2.1 dX10_hasWalker_19 (by decide) ?_
      exact RET G ⟨rfl, (iv_mono (iv_lit (lo := 1) (hi := 1) 1 (by decide) (by decide)) (by decide) (by decide)), (fun _ => iv_mono b8 (by decide) (by decide))⟩ (by decide) dX10_hasWalker_23
