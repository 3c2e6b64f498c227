theorem mw_code_X10_hasLure : (Cond.code yX10_hasLure cX10_hasLure 2 (some .boolean) : Cond) ∈ cw := cw_of (List.mem_append_right _ (List.mem_append_right _ (List.mem_append_right _ (List.mem_append_right _ (List.mem_append_left _ (List.mem_of_getElem? (i := 18) rfl)))))) (by decide +kernel)
theorem mw_code_X6_isSet : (Cond.code yX6_isSet cX6_isSet 2 (some .boolean) : Cond) ∈ cw := cw_of (List.mem_append_right _ (List.mem_append_right _ (List.mem_append_right _ (List.mem_append_right _ (List.mem_append_left _ (List.mem_of_getElem? (i := 22) rfl)))))) (by decide +kernel)
theorem mw_fl_10_121 : (Cond.fieldLink RX10 121 "LureTown$Moment" "state" "LLureTown$State;" : Cond) ∈ cw := cw_of (List.mem_append_right _ (List.mem_append_right _ (List.mem_append_left _ (List.mem_of_getElem? (i := 54) (by decide +kernel))))) (by decide +kernel)
theorem mw_ini_10 : (Cond.initialized RX10 : Cond) ∈ cw := cw_of (List.mem_append_right _ (List.mem_append_left _ (List.mem_of_getElem? (i := 1) (by decide +kernel)))) (by decide +kernel)
theorem mw_inst_X10_hasLure : (Cond.instanceMethod yX10_hasLure : Cond) ∈ cw := cw_of (List.mem_append_right _ (List.mem_append_right _ (List.mem_append_right _ (List.mem_append_right _ (List.mem_append_left _ (List.mem_of_getElem? (i := 17) (by decide +kernel))))))) (by decide +kernel)
theorem mw_inst_X6_isSet : (Cond.instanceMethod yX6_isSet : Cond) ∈ cw := cw_of (List.mem_append_right _ (List.mem_append_right _ (List.mem_append_right _ (List.mem_append_right _ (List.mem_append_left _ (List.mem_of_getElem? (i := 20) (by decide +kernel))))))) (by decide +kernel)
theorem mw_ml_10_149 : (Cond.methodLink RX10 149 yX10_hasLure : Cond) ∈ cw := cw_of (List.mem_append_right _ (List.mem_append_right _ (List.mem_append_right _ (List.mem_append_right _ (List.mem_append_left _ (List.mem_of_getElem? (i := 15) (by decide +kernel))))))) (by decide +kernel)
theorem mw_ml_10_165 : (Cond.methodLink RX10 165 yX6_isSet : Cond) ∈ cw := cw_of (List.mem_append_right _ (List.mem_append_right _ (List.mem_append_right _ (List.mem_append_right _ (List.mem_append_left _ (List.mem_of_getElem? (i := 19) (by decide +kernel))))))) (by decide +kernel)
theorem mw_sel_X10_hasLure : (Cond.selects RX10 yX10_hasLure yX10_hasLure : Cond) ∈ cw := cw_of (List.mem_append_left _ (List.mem_of_getElem? (i := 22) (by decide +kernel))) (by decide +kernel)
theorem mw_sel_X6_isSet : (Cond.selects RX6 yX6_isSet yX6_isSet : Cond) ∈ cw := cw_of (List.mem_append_right _ (List.mem_append_right _ (List.mem_append_right _ (List.mem_append_right _ (List.mem_append_left _ (List.mem_of_getElem? (i := 21) (by decide +kernel))))))) (by decide +kernel)
theorem dX10_hasSetLure_0 : decode cX10_hasSetLure 0 = .ok (.aload_n 0, 1) := by decide +kernel
theorem dX10_hasSetLure_1 : decode cX10_hasSetLure 1 = .ok (.iload_n 1, 1) := by decide +kernel
theorem dX10_hasSetLure_2 : decode cX10_hasSetLure 2 = .ok (.invokevirtual 149, 3) := by decide +kernel
theorem dX10_hasSetLure_5 : decode cX10_hasSetLure 5 = .ok (.ifCond .eq 21, 3) := by decide +kernel
theorem dX10_hasSetLure_8 : decode cX10_hasSetLure 8 = .ok (.aload_n 0, 1) := by decide +kernel
theorem dX10_hasSetLure_9 : decode cX10_hasSetLure 9 = .ok (.getfield 55, 3) := by decide +kernel
theorem dX10_hasSetLure_12 : decode cX10_hasSetLure 12 = .ok (.getfield 121, 3) := by decide +kernel
theorem dX10_hasSetLure_15 : decode cX10_hasSetLure 15 = .ok (.iload_n 1, 1) := by decide +kernel
theorem dX10_hasSetLure_16 : decode cX10_hasSetLure 16 = .ok (.invokevirtual 165, 3) := by decide +kernel
theorem dX10_hasSetLure_19 : decode cX10_hasSetLure 19 = .ok (.ifCond .eq 7, 3) := by decide +kernel
theorem dX10_hasSetLure_22 : decode cX10_hasSetLure 22 = .ok (.iconst 1, 1) := by decide +kernel
theorem dX10_hasSetLure_23 : decode cX10_hasSetLure 23 = .ok (.goto 4, 3) := by decide +kernel
theorem dX10_hasSetLure_26 : decode cX10_hasSetLure 26 = .ok (.iconst 0, 1) := by decide +kernel
theorem dX10_hasSetLure_27 : decode cX10_hasSetLure 27 = .ok (.ireturn, 1) := by decide +kernel
theorem hd_X10_hasLure : yX10_hasLure.cls ≠ "java/lang/invoke/MethodHandle" ∧ yX10_hasLure.cls ≠ "java/lang/invoke/VarHandle" ∧ (parseMethodDescriptor yX10_hasLure.desc).map (fun d => d.parameters.length) = some 1 := ⟨by decide +kernel, by decide +kernel, by decide +kernel⟩
theorem hd_X6_isSet : yX6_isSet.cls ≠ "java/lang/invoke/MethodHandle" ∧ yX6_isSet.cls ≠ "java/lang/invoke/VarHandle" ∧ (parseMethodDescriptor yX6_isSet.desc).map (fun d => d.parameters.length) = some 1 := ⟨by decide +kernel, by decide +kernel, by decide +kernel⟩
set_option maxHeartbeats 4000000 in
set_option maxRecDepth 100000 in
theorem h_setLure (l : Launch) (D : va_G) (K : Nat → ClassId) (ad : Nat → Nat) (z : TS) (o : Ok z) (x1 : Int32) : cI l yX10_hasSetLure cX10_hasSetLure 2 .boolean ({ frames := 1, cells := 0, slots := 0, locals := 21 }) D K ad z [.ref (ad 0), .int x1] (fun r u => u = z ∧ iv 0 1 r ∧ (¬ r = 0 → iv 0 5 x1)) := by
  refine t_enterI (by decide) (Nat.le_of_ble_eq_true rfl) rfl rfl ?_
  intro p e s m args below meth c A R Q H locs ls E hfr hlo RET G hl
  have E : mE p s m meth c cX10_hasSetLure args 2 RX10 D K A := E
  have hl : lv_has ls 2 [(0, .ref (ad 0)), (1, .int x1)] := hl
  refine lv_aload_n E.1 E.2.1 dX10_hasSetLure_0 rfl (lv_at hl 0 rfl) ?_
  refine lv_iload_n E.1 E.2.1 dX10_hasSetLure_1 rfl (lv_at hl 1 rfl) ?_
  refine t_vi E G hl (h_lure l D K ad z o x1) 10 (rfl : ro 0 = 10) (by decide) rfl rfl 1 rfl mw_code_X10_hasLure mw_ini_10 mw_ml_10_149 mw_inst_X10_hasLure mw_sel_X10_hasLure hd_X10_hasLure ⟨Nat.le_trans (by decide) hfr, Nat.le_trans (by decide) hlo⟩ rfl rfl rfl (Nat.le_of_ble_eq_true rfl) dX10_hasSetLure_2 (fun r2 zz1 H locs hp3 G => ?_)
  obtain ⟨hz6, b4, h5⟩ := hp3
  rw [hz6] at G
  refine lv_if_eq (tgt := 26) E.1 E.2.1 dX10_hasSetLure_5 (by decide) (fun c7 => ?_) (fun c7 => ?_)
  · skip
    have b8 : iv 0 0 r2 := iv_eq c7 (iv_lit (lo := 0) (hi := 0) 0 (by decide) (by decide))
    refine lv_iconst (v := 0) E.1 E.2.1 dX10_hasSetLure_26 (by decide) ?_
    exact RET G ⟨rfl, (iv_mono (iv_lit (lo := 0) (hi := 0) 0 (by decide) (by decide)) (by decide) (by decide)), (fun h => absurd rfl h)⟩ (by decide) dX10_hasSetLure_27
  · skip
    have b9 : iv 1 1 r2 := ne_lo c7 b4 (by decide) (by decide)
    have b10 : iv 0 5 x1 := h5 c7
    refine lv_aload_n E.1 E.2.1 dX10_hasSetLure_8 rfl (lv_at hl 0 rfl) ?_
    refine t_get E G 10 7 (rfl : ro 0 = 10) (C := RX10) (T := TX10) (N := 17) rfl (by decide) (by decide) (by decide) mw_fl_10_55 (v := .ref (ad 56)) (fvl_o (n := 56) rfl) dX10_hasSetLure_9 ?_
    refine t_get E G 2 1 (rfl : ro 56 = 2) (C := RX2) (T := TX2) (N := 5) rfl (by decide) (by decide) (by decide) mw_fl_10_121 (v := .ref (ad 70)) (fvl_o (n := 14) rfl) dX10_hasSetLure_12 ?_
    refine lv_iload_n E.1 E.2.1 dX10_hasSetLure_15 rfl (lv_at hl 1 rfl) ?_
    refine t_vi E G hl (s_isSet l D K ad z o 70 (by decide : at_ 6 70 = true) x1) 6 (rfl : ro 70 = 6) (by decide) rfl rfl 1 rfl mw_code_X6_isSet mw_ini_6 mw_ml_10_165 mw_inst_X6_isSet mw_sel_X6_isSet hd_X6_isSet ⟨Nat.le_trans (by decide) hfr, Nat.le_trans (by decide) hlo⟩ rfl rfl rfl (Nat.le_of_ble_eq_true rfl) dX10_hasSetLure_16 (fun r12 zz11 H locs hp13 G => ?_)
    obtain ⟨hz15, b14⟩ := hp13
    rw [hz15] at G
    refine lv_if_eq (tgt := 26) E.1 E.2.1 dX10_hasSetLure_19 (by decide) (fun c16 => ?_) (fun c16 => ?_)
    · skip
      have b17 : iv 0 0 r12 := iv_eq c16 (iv_lit (lo := 0) (hi := 0) 0 (by decide) (by decide))
      refine lv_iconst (v := 0) E.1 E.2.1 dX10_hasSetLure_26 (by decide) ?_
      exact RET G ⟨rfl, (iv_mono (iv_lit (lo := 0) (hi := 0) 0 (by decide) (by decide)) (by decide) (by decide)), (fun h => absurd rfl h)⟩ (by decide) dX10_hasSetLure_27
    · skip
      have b18 : iv 1 1 r12 := ne_lo c16 b14 (by decide) (by decide)
      refine lv_iconst (v := 1) E.1 E.2.1 dX10_hasSetLure_22 (by decide) ?_
      refine lv_goto (tgt := 27) E.1 E.2.1 dX10_hasSetLure_23 (by decide) ?_
      exact RET G ⟨rfl, (iv_mono (iv_lit (lo := 1) (hi := 1) 1 (by decide) (by decide)) (by decide) (by decide)), (fun _ => iv_mono b10 (by decide) (by decide))⟩ (by decide) dX10_hasSetLure_27
