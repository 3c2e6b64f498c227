theorem mw_fl_10_39 : (Cond.fieldLink RX10 39 "LureTown" "rules" "[LLureTown$Rule;" : Cond) ∈ cw := cw_of (List.mem_append_right _ (List.mem_append_right _ (List.mem_append_left _ (List.mem_of_getElem? (i := 132) (by decide +kernel))))) (by decide +kernel)
theorem mw_fl_10_48 : (Cond.fieldLink RX10 48 "LureTown" "noRule" "LLureTown$Rule;" : Cond) ∈ cw := cw_of (List.mem_append_right _ (List.mem_append_right _ (List.mem_append_left _ (List.mem_of_getElem? (i := 134) (by decide +kernel))))) (by decide +kernel)
theorem dX10_ruleOf_0 : decode cX10_ruleOf 0 = .ok (.iload_n 1, 1) := by decide +kernel
theorem dX10_ruleOf_1 : decode cX10_ruleOf 1 = .ok (.ifCond .lt 20, 3) := by decide +kernel
theorem dX10_ruleOf_4 : decode cX10_ruleOf 4 = .ok (.iload_n 1, 1) := by decide +kernel
theorem dX10_ruleOf_5 : decode cX10_ruleOf 5 = .ok (.aload_n 0, 1) := by decide +kernel
theorem dX10_ruleOf_6 : decode cX10_ruleOf 6 = .ok (.getfield 43, 3) := by decide +kernel
theorem dX10_ruleOf_9 : decode cX10_ruleOf 9 = .ok (.if_icmp .ge 12, 3) := by decide +kernel
theorem dX10_ruleOf_12 : decode cX10_ruleOf 12 = .ok (.aload_n 0, 1) := by decide +kernel
theorem dX10_ruleOf_13 : decode cX10_ruleOf 13 = .ok (.getfield 39, 3) := by decide +kernel
theorem dX10_ruleOf_16 : decode cX10_ruleOf 16 = .ok (.iload_n 1, 1) := by decide +kernel
theorem dX10_ruleOf_17 : decode cX10_ruleOf 17 = .ok (.aaload, 1) := by decide +kernel
theorem dX10_ruleOf_18 : decode cX10_ruleOf 18 = .ok (.goto 7, 3) := by decide +kernel
theorem dX10_ruleOf_21 : decode cX10_ruleOf 21 = .ok (.aload_n 0, 1) := by decide +kernel
theorem dX10_ruleOf_22 : decode cX10_ruleOf 22 = .ok (.getfield 48, 3) := by decide +kernel
theorem dX10_ruleOf_25 : decode cX10_ruleOf 25 = .ok (.areturn, 1) := by decide +kernel
set_option maxHeartbeats 4000000 in
set_option maxRecDepth 100000 in
theorem k_ruleOf (l : Launch) (D : va_G) (K : Nat → ClassId) (ad : Nat → Nat) (z : TS) (o : Ok z) (x1 : Int32) : cR l yX10_ruleOf cX10_ruleOf 2 (.object "LureTown$Rule") ({ frames := 0, cells := 0, slots := 0, locals := 0 }) D K ad z [.ref (ad 0), .int x1] (fun q u => u = z ∧ (at_ 4 q = true)) := by
  refine t_enterR (by decide) (Nat.le_of_ble_eq_true rfl) rfl rfl ?_
  intro p e s m args below meth c A R Q H locs ls E hfr hlo RET G hl
  have E : mE p s m meth c cX10_ruleOf args 2 RX10 D K A := E
  have hl : lv_has ls 2 [(0, .ref (ad 0)), (1, .int x1)] := hl
  refine lv_iload_n E.1 E.2.1 dX10_ruleOf_0 rfl (lv_at hl 1 rfl) ?_
  refine lv_if_lt (tgt := 21) E.1 E.2.1 dX10_ruleOf_1 (by decide) (fun c1 => ?_) (fun c1 => ?_)
  · skip
    have b2 : iv (-2147483648) (-1) x1 := lt_l c1 (iv_full x1) (iv_lit (lo := 0) (hi := 0) 0 (by decide) (by decide)) (by decide)
    refine lv_aload_n E.1 E.2.1 dX10_ruleOf_21 rfl (lv_at hl 0 rfl) ?_
    refine t_get E G 10 6 (rfl : ro 0 = 10) (C := RX10) (T := TX10) (N := 17) rfl (by decide) (by decide) (by decide) mw_fl_10_48 (v := .ref (ad 51)) (fvl_o (n := 51) rfl) dX10_ruleOf_22 ?_
    exact RET G ⟨rfl, (by decide : at_ 4 51 = true)⟩ dX10_ruleOf_25
  · skip
    have b3 : iv 0 2147483647 x1 := le_r (Int32.not_lt.mp c1) (iv_lit (lo := 0) (hi := 0) 0 (by decide) (by decide)) (iv_full x1) (by decide)
    refine lv_iload_n E.1 E.2.1 dX10_ruleOf_4 rfl (lv_at hl 1 rfl) ?_
    refine lv_aload_n E.1 E.2.1 dX10_ruleOf_5 rfl (lv_at hl 0 rfl) ?_
    refine t_get E G 10 5 (rfl : ro 0 = 10) (C := RX10) (T := TX10) (N := 17) rfl (by decide) (by decide) (by decide) mw_fl_10_43 (fvl_i rfl) dX10_ruleOf_6 ?_
    refine lv_topi (fun v4 e5 => ?_)
    have b6 : iv 0 6 v4 := by rw [e5]; exact o.i 10 5 (rfl : ro 0 = 10)
    refine lv_icmp_ge (tgt := 21) E.1 E.2.1 dX10_ruleOf_9 (by decide) (fun c7 => ?_) (fun c7 => ?_)
    · skip
      refine lv_aload_n E.1 E.2.1 dX10_ruleOf_21 rfl (lv_at hl 0 rfl) ?_
      refine t_get E G 10 6 (rfl : ro 0 = 10) (C := RX10) (T := TX10) (N := 17) rfl (by decide) (by decide) (by decide) mw_fl_10_48 (v := .ref (ad 51)) (fvl_o (n := 51) rfl) dX10_ruleOf_22 ?_
      exact RET G ⟨rfl, (by decide : at_ 4 51 = true)⟩ dX10_ruleOf_25
    · skip
      have b8 : iv 0 5 x1 := lt_l (Int32.not_le.mp c7) b3 b6 (by decide)
      have b9 : iv 1 6 v4 := lt_r (Int32.not_le.mp c7) b3 b6 (by decide)
      refine lv_aload_n E.1 E.2.1 dX10_ruleOf_12 rfl (lv_at hl 0 rfl) ?_
      refine t_get E G 10 4 (rfl : ro 0 = 10) (C := RX10) (T := TX10) (N := 17) rfl (by decide) (by decide) (by decide) mw_fl_10_39 (v := .ref (ad 20)) (fvl_o (n := 20) rfl) dX10_ruleOf_13 ?_
      refine lv_iload_n E.1 E.2.1 dX10_ruleOf_16 rfl (lv_at hl 1 rfl) ?_
      refine t_aald E G 37 (rfl : ro 20 = 37) (by decide) (by decide) (t0 := 4) rfl (by decide) (n := 6) rfl rfl (iv_vp b8 (by decide) (by decide)) dX10_ruleOf_17 ?_
      obtain ⟨qq10, eqq10⟩ : ∃ q : Nat, q = 20 + 1 + qst 37 * (x1 : Int32).toNatClampNeg := ⟨_, rfl⟩
      have aqq10 : at_ 4 qq10 = true := by rw [eqq10]; exact rules_at _ (clamp_lt b8 (by decide) (by decide))
      rw [← eqq10]
      refine lv_goto (tgt := 25) E.1 E.2.1 dX10_ruleOf_18 (by decide) ?_
      exact RET G ⟨rfl, aqq10⟩ dX10_ruleOf_25
