theorem mw_code_X7_append : (Cond.code yX7_append cX7_append 3 none : Cond) ∈ cw := cw_of (List.mem_append_right _ (List.mem_append_right _ (List.mem_append_left _ (List.mem_of_getElem? (i := 187) rfl)))) (by decide +kernel)
theorem mw_ini_7 : (Cond.initialized RX7 : Cond) ∈ cw := cw_of (List.mem_append_right _ (List.mem_append_left _ (List.mem_of_getElem? (i := 2) (by decide +kernel)))) (by decide +kernel)
theorem mw_inst_X7_append : (Cond.instanceMethod yX7_append : Cond) ∈ cw := cw_of (List.mem_append_right _ (List.mem_append_right _ (List.mem_append_left _ (List.mem_of_getElem? (i := 185) (by decide +kernel))))) (by decide +kernel)
theorem mw_ml_10_103 : (Cond.methodLink RX10 103 yX7_append : Cond) ∈ cw := cw_of (List.mem_append_right _ (List.mem_append_right _ (List.mem_append_left _ (List.mem_of_getElem? (i := 184) (by decide +kernel))))) (by decide +kernel)
theorem mw_sel_X7_append : (Cond.selects RX7 yX7_append yX7_append : Cond) ∈ cw := cw_of (List.mem_append_right _ (List.mem_append_right _ (List.mem_append_left _ (List.mem_of_getElem? (i := 186) (by decide +kernel))))) (by decide +kernel)
theorem dX10_feed_0 : decode cX10_feed 0 = .ok (.aload_n 0, 1) := by decide +kernel
theorem dX10_feed_1 : decode cX10_feed 1 = .ok (.getfield 10, 3) := by decide +kernel
theorem dX10_feed_4 : decode cX10_feed 4 = .ok (.getfield 100, 3) := by decide +kernel
theorem dX10_feed_7 : decode cX10_feed 7 = .ok (.bipush 20, 2) := by decide +kernel
theorem dX10_feed_9 : decode cX10_feed 9 = .ok (.iadd, 1) := by decide +kernel
theorem dX10_feed_10 : decode cX10_feed 10 = .ok (.sipush 400, 3) := by decide +kernel
theorem dX10_feed_13 : decode cX10_feed 13 = .ok (.if_icmp .le 5, 3) := by decide +kernel
theorem dX10_feed_16 : decode cX10_feed 16 = .ok (.iconst (-1), 1) := by decide +kernel
theorem dX10_feed_17 : decode cX10_feed 17 = .ok (.ireturn, 1) := by decide +kernel
theorem dX10_feed_18 : decode cX10_feed 18 = .ok (.aload_n 0, 1) := by decide +kernel
theorem dX10_feed_19 : decode cX10_feed 19 = .ok (.getfield 10, 3) := by decide +kernel
theorem dX10_feed_22 : decode cX10_feed 22 = .ok (.iload_n 1, 1) := by decide +kernel
theorem dX10_feed_23 : decode cX10_feed 23 = .ok (.invokevirtual 103, 3) := by decide +kernel
theorem dX10_feed_26 : decode cX10_feed 26 = .ok (.aload_n 0, 1) := by decide +kernel
theorem dX10_feed_27 : decode cX10_feed 27 = .ok (.getfield 10, 3) := by decide +kernel
theorem dX10_feed_30 : decode cX10_feed 30 = .ok (.iload_n 2, 1) := by decide +kernel
theorem dX10_feed_31 : decode cX10_feed 31 = .ok (.invokevirtual 103, 3) := by decide +kernel
theorem dX10_feed_34 : decode cX10_feed 34 = .ok (.aload_n 0, 1) := by decide +kernel
theorem dX10_feed_35 : decode cX10_feed 35 = .ok (.getfield 10, 3) := by decide +kernel
theorem dX10_feed_38 : decode cX10_feed 38 = .ok (.iload_n 3, 1) := by decide +kernel
theorem dX10_feed_39 : decode cX10_feed 39 = .ok (.invokevirtual 103, 3) := by decide +kernel
theorem dX10_feed_42 : decode cX10_feed 42 = .ok (.aload_n 0, 1) := by decide +kernel
theorem dX10_feed_43 : decode cX10_feed 43 = .ok (.getfield 10, 3) := by decide +kernel
theorem dX10_feed_46 : decode cX10_feed 46 = .ok (.iload 4, 2) := by decide +kernel
theorem dX10_feed_48 : decode cX10_feed 48 = .ok (.invokevirtual 103, 3) := by decide +kernel
theorem dX10_feed_51 : decode cX10_feed 51 = .ok (.aload_n 0, 1) := by decide +kernel
theorem dX10_feed_52 : decode cX10_feed 52 = .ok (.getfield 10, 3) := by decide +kernel
theorem dX10_feed_55 : decode cX10_feed 55 = .ok (.iload 5, 2) := by decide +kernel
theorem dX10_feed_57 : decode cX10_feed 57 = .ok (.invokevirtual 103, 3) := by decide +kernel
theorem dX10_feed_60 : decode cX10_feed 60 = .ok (.aload_n 0, 1) := by decide +kernel
theorem dX10_feed_61 : decode cX10_feed 61 = .ok (.getfield 10, 3) := by decide +kernel
theorem dX10_feed_64 : decode cX10_feed 64 = .ok (.getfield 100, 3) := by decide +kernel
theorem dX10_feed_67 : decode cX10_feed 67 = .ok (.ireturn, 1) := by decide +kernel
theorem hd_X7_append : yX7_append.cls ≠ "java/lang/invoke/MethodHandle" ∧ yX7_append.cls ≠ "java/lang/invoke/VarHandle" ∧ (parseMethodDescriptor yX7_append.desc).map (fun d => d.parameters.length) = some 1 := ⟨by decide +kernel, by decide +kernel, by decide +kernel⟩
set_option maxHeartbeats 4000000 in
set_option maxRecDepth 100000 in
theorem k_feed (l : Launch) (D : va_G) (K : Nat → ClassId) (ad : Nat → Nat) (z : TS) (o : Ok z) (x1 : Int32) (x2 : Int32) (x3 : Int32) (x4 : Int32) (x5 : Int32) : cI l yX10_feed cX10_feed 6 .int ({ frames := 1, cells := 0, slots := 0, locals := 22 }) D K ad z [.ref (ad 0), .int x1, .int x2, .int x3, .int x4, .int x5] (fun r u => Ok u ∧ KC z u) := by
  refine t_enterI (by decide) (Nat.le_of_ble_eq_true rfl) rfl rfl ?_
  intro p e s m args below meth c A R Q H locs ls E hfr hlo RET G hl
  have E : mE p s m meth c cX10_feed args 6 RX10 D K A := E
  have hl : lv_has ls 6 [(0, .ref (ad 0)), (1, .int x1), (2, .int x2), (3, .int x3), (4, .int x4), (5, .int x5)] := hl
  refine lv_aload_n E.1 E.2.1 dX10_feed_0 rfl (lv_at hl 0 rfl) ?_
  refine t_get E G 10 0 (rfl : ro 0 = 10) (C := RX10) (T := TX10) (N := 17) rfl (by decide) (by decide) (by decide) mw_fl_10_10 (v := .ref (ad 1)) (fvl_o (n := 1) rfl) dX10_feed_1 ?_
  refine t_get E G 7 1 (rfl : ro 1 = 7) (C := RX7) (T := TX7) (N := 7) rfl (by decide) (by decide) (by decide) mw_fl_10_100 (fvl_i rfl) dX10_feed_4 ?_
  refine lv_topi (fun v1 e2 => ?_)
  have b3 : iv 0 400 v1 := by rw [e2]; exact o.i 7 1 (rfl : ro 1 = 7)
  refine lv_bipush (v := 20) E.1 E.2.1 dX10_feed_7 (by decide) ?_
  refine lv_iadd E.1 E.2.1 dX10_feed_9 ?_
  refine lv_topi (fun v4 e5 => ?_)
  have b6 : iv 20 420 v4 := by rw [e5]; exact iv_add b3 (iv_lit (lo := 20) (hi := 20) 20 (by decide) (by decide)) (by decide) (by decide) (by decide) (by decide)
  refine lv_sipush (v := 400) E.1 E.2.1 dX10_feed_10 (by decide) ?_
  refine lv_icmp_le (tgt := 18) E.1 E.2.1 dX10_feed_13 (by decide) (fun c7 => ?_) (fun c7 => ?_)
  · skip
    have b8 : iv 20 400 v4 := le_l c7 b6 (iv_lit (lo := 400) (hi := 400) 400 (by decide) (by decide)) (by decide)
    refine lv_aload_n E.1 E.2.1 dX10_feed_18 rfl (lv_at hl 0 rfl) ?_
    refine t_get E G 10 0 (rfl : ro 0 = 10) (C := RX10) (T := TX10) (N := 17) rfl (by decide) (by decide) (by decide) mw_fl_10_10 (v := .ref (ad 1)) (fvl_o (n := 1) rfl) dX10_feed_19 ?_
    refine lv_iload_n E.1 E.2.1 dX10_feed_22 rfl (lv_at hl 1 rfl) ?_
    refine t_vv E G hl (tp_append l D K ad z o 1 (by decide : at_ 7 1 = true) x1) 7 (rfl : ro 1 = 7) (by decide) rfl rfl 1 rfl mw_code_X7_append mw_ini_7 mw_ml_10_103 mw_inst_X7_append mw_sel_X7_append hd_X7_append ⟨Nat.le_trans (by decide) hfr, Nat.le_trans (by decide) hlo⟩ rfl rfl rfl (Nat.le_of_ble_eq_true rfl) dX10_feed_23 (fun zz9 H locs hp11 G => ?_)
    obtain ⟨oo12, kk13⟩ := hp11
    have kk14 : KC z zz9 := KC.tr KC.rf kk13
    refine lv_aload_n E.1 E.2.1 dX10_feed_26 rfl (lv_at hl 0 rfl) ?_
    refine t_get E G 10 0 (rfl : ro 0 = 10) (C := RX10) (T := TX10) (N := 17) rfl (by decide) (by decide) (by decide) mw_fl_10_10 (v := .ref (ad 1)) (fvl_o (n := 1) rfl) dX10_feed_27 ?_
    refine lv_iload_n E.1 E.2.1 dX10_feed_30 rfl (lv_at hl 2 rfl) ?_
    refine t_vv E G hl (tp_append l D K ad zz9 oo12 1 (by decide : at_ 7 1 = true) x2) 7 (rfl : ro 1 = 7) (by decide) rfl rfl 1 rfl mw_code_X7_append mw_ini_7 mw_ml_10_103 mw_inst_X7_append mw_sel_X7_append hd_X7_append ⟨Nat.le_trans (by decide) hfr, Nat.le_trans (by decide) hlo⟩ rfl rfl rfl (Nat.le_of_ble_eq_true rfl) dX10_feed_31 (fun zz15 H locs hp17 G => ?_)
    obtain ⟨oo18, kk19⟩ := hp17
    have kk20 : KC z zz15 := KC.tr kk14 kk19
    refine lv_aload_n E.1 E.2.1 dX10_feed_34 rfl (lv_at hl 0 rfl) ?_
    refine t_get E G 10 0 (rfl : ro 0 = 10) (C := RX10) (T := TX10) (N := 17) rfl (by decide) (by decide) (by decide) mw_fl_10_10 (v := .ref (ad 1)) (fvl_o (n := 1) rfl) dX10_feed_35 ?_
    refine lv_iload_n E.1 E.2.1 dX10_feed_38 rfl (lv_at hl 3 rfl) ?_
    refine t_vv E G hl (tp_append l D K ad zz15 oo18 1 (by decide : at_ 7 1 = true) x3) 7 (rfl : ro 1 = 7) (by decide) rfl rfl 1 rfl mw_code_X7_append mw_ini_7 mw_ml_10_103 mw_inst_X7_append mw_sel_X7_append hd_X7_append ⟨Nat.le_trans (by decide) hfr, Nat.le_trans (by decide) hlo⟩ rfl rfl rfl (Nat.le_of_ble_eq_true rfl) dX10_feed_39 (fun zz21 H locs hp23 G => ?_)
    obtain ⟨oo24, kk25⟩ := hp23
    have kk26 : KC z zz21 := KC.tr kk20 kk25
    refine lv_aload_n E.1 E.2.1 dX10_feed_42 rfl (lv_at hl 0 rfl) ?_
    refine t_get E G 10 0 (rfl : ro 0 = 10) (C := RX10) (T := TX10) (N := 17) rfl (by decide) (by decide) (by decide) mw_fl_10_10 (v := .ref (ad 1)) (fvl_o (n := 1) rfl) dX10_feed_43 ?_
    refine lv_iload E.1 E.2.1 dX10_feed_46 (lv_at hl 4 rfl) ?_
    refine t_vv E G hl (tp_append l D K ad zz21 oo24 1 (by decide : at_ 7 1 = true) x4) 7 (rfl : ro 1 = 7) (by decide) rfl rfl 1 rfl mw_code_X7_append mw_ini_7 mw_ml_10_103 mw_inst_X7_append mw_sel_X7_append hd_X7_append ⟨Nat.le_trans (by decide) hfr, Nat.le_trans (by decide) hlo⟩ rfl rfl rfl (Nat.le_of_ble_eq_true rfl) dX10_feed_48 (fun zz27 H locs hp29 G => ?_)
    obtain ⟨oo30, kk31⟩ := hp29
    have kk32 : KC z zz27 := KC.tr kk26 kk31
    refine lv_aload_n E.1 E.2.1 dX10_feed_51 rfl (lv_at hl 0 rfl) ?_
    refine t_get E G 10 0 (rfl : ro 0 = 10) (C := RX10) (T := TX10) (N := 17) rfl (by decide) (by decide) (by decide) mw_fl_10_10 (v := .ref (ad 1)) (fvl_o (n := 1) rfl) dX10_feed_52 ?_
    refine lv_iload E.1 E.2.1 dX10_feed_55 (lv_at hl 5 rfl) ?_
    refine t_vv E G hl (tp_append l D K ad zz27 oo30 1 (by decide : at_ 7 1 = true) x5) 7 (rfl : ro 1 = 7) (by decide) rfl rfl 1 rfl mw_code_X7_append mw_ini_7 mw_ml_10_103 mw_inst_X7_append mw_sel_X7_append hd_X7_append ⟨Nat.le_trans (by decide) hfr, Nat.le_trans (by decide) hlo⟩ rfl rfl rfl (Nat.le_of_ble_eq_true rfl) dX10_feed_57 (fun zz33 H locs hp35 G => ?_)
    obtain ⟨oo36, kk37⟩ := hp35
    have kk38 : KC z zz33 := KC.tr kk32 kk37
    refine lv_aload_n E.1 E.2.1 dX10_feed_60 rfl (lv_at hl 0 rfl) ?_
    refine t_get E G 10 0 (rfl : ro 0 = 10) (C := RX10) (T := TX10) (N := 17) rfl (by decide) (by decide) (by decide) mw_fl_10_10 (v := .ref (ad 1)) (fvl_o (n := 1) rfl) dX10_feed_61 ?_
    refine t_get E G 7 1 (rfl : ro 1 = 7) (C := RX7) (T := TX7) (N := 7) rfl (by decide) (by decide) (by decide) mw_fl_10_100 (fvl_i rfl) dX10_feed_64 ?_
    refine lv_topi (fun v39 e40 => ?_)
    have b41 : iv 0 400 v39 := by rw [e40]; exact oo36.i 7 1 (rfl : ro 1 = 7)
    exact RET G ⟨oo36, kk38⟩ rfl dX10_feed_67
  · skip
    have b42 : iv 401 420 v4 := lt_r (Int32.not_le.mp c7) (iv_lit (lo := 400) (hi := 400) 400 (by decide) (by decide)) b6 (by decide)
    refine lv_iconst (v := (-1)) E.1 E.2.1 dX10_feed_16 (by decide) ?_
    exact RET G ⟨o, KC.rf⟩ rfl dX10_feed_17
