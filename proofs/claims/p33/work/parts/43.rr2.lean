theorem mw_code_X5_hold : (Cond.code yX5_hold cX5_hold 2 none : Cond) ∈ cw := cw_of (List.mem_append_right _ (List.mem_append_right _ (List.mem_append_right _ (List.mem_append_left _ (List.mem_of_getElem? (i := 219) rfl))))) (by decide +kernel)
theorem mw_code_X5_release : (Cond.code yX5_release cX5_release 2 none : Cond) ∈ cw := cw_of (List.mem_append_right _ (List.mem_append_right _ (List.mem_append_right _ (List.mem_append_left _ (List.mem_of_getElem? (i := 234) rfl))))) (by decide +kernel)
theorem mw_code_X5_takePart : (Cond.code yX5_takePart cX5_takePart 1 none : Cond) ∈ cw := cw_of (List.mem_append_right _ (List.mem_append_right _ (List.mem_append_right _ (List.mem_append_left _ (List.mem_of_getElem? (i := 211) rfl))))) (by decide +kernel)
theorem mw_fl_5_29 : (Cond.fieldLink RX5 29 "LureTown$RuleReader" "brackets" "I" : Cond) ∈ cw := cw_of (List.mem_append_right _ (List.mem_append_left _ (List.mem_of_getElem? (i := 232) (by decide +kernel)))) (by decide +kernel)
theorem mw_fl_5_35 : (Cond.fieldLink RX5 35 "LureTown$RuleReader" "want" "I" : Cond) ∈ cw := cw_of (List.mem_append_right _ (List.mem_append_left _ (List.mem_of_getElem? (i := 234) (by decide +kernel)))) (by decide +kernel)
theorem mw_fl_5_38 : (Cond.fieldLink RX5 38 "LureTown$RuleReader" "side" "I" : Cond) ∈ cw := cw_of (List.mem_append_right _ (List.mem_append_left _ (List.mem_of_getElem? (i := 235) (by decide +kernel)))) (by decide +kernel)
theorem mw_fl_5_75 : (Cond.fieldLink RX5 75 "LureTown$Tape" "token" "I" : Cond) ∈ cw := cw_of (List.mem_append_right _ (List.mem_append_left _ (List.mem_of_getElem? (i := 44) (by decide +kernel)))) (by decide +kernel)
theorem mw_fl_5_82 : (Cond.fieldLink RX5 82 "LureTown$Rule" "clauseCount" "I" : Cond) ∈ cw := cw_of (List.mem_append_right _ (List.mem_append_left _ (List.mem_of_getElem? (i := 208) (by decide +kernel)))) (by decide +kernel)
theorem mw_fl_5_88 : (Cond.fieldLink RX5 88 "LureTown$Tape" "number" "I" : Cond) ∈ cw := cw_of (List.mem_append_right _ (List.mem_append_left _ (List.mem_of_getElem? (i := 47) (by decide +kernel)))) (by decide +kernel)
theorem mw_inst_X5_hold : (Cond.instanceMethod yX5_hold : Cond) ∈ cw := cw_of (List.mem_append_right _ (List.mem_append_right _ (List.mem_append_right _ (List.mem_append_left _ (List.mem_of_getElem? (i := 218) (by decide +kernel)))))) (by decide +kernel)
theorem mw_inst_X5_release : (Cond.instanceMethod yX5_release : Cond) ∈ cw := cw_of (List.mem_append_right _ (List.mem_append_right _ (List.mem_append_right _ (List.mem_append_left _ (List.mem_of_getElem? (i := 233) (by decide +kernel)))))) (by decide +kernel)
theorem mw_inst_X5_takePart : (Cond.instanceMethod yX5_takePart : Cond) ∈ cw := cw_of (List.mem_append_right _ (List.mem_append_right _ (List.mem_append_right _ (List.mem_append_left _ (List.mem_of_getElem? (i := 210) (by decide +kernel)))))) (by decide +kernel)
theorem mw_ml_5_105 : (Cond.methodLink RX5 105 yX5_release : Cond) ∈ cw := cw_of (List.mem_append_right _ (List.mem_append_right _ (List.mem_append_right _ (List.mem_append_left _ (List.mem_of_getElem? (i := 231) (by decide +kernel)))))) (by decide +kernel)
theorem mw_ml_5_85 : (Cond.methodLink RX5 85 yX5_hold : Cond) ∈ cw := cw_of (List.mem_append_right _ (List.mem_append_right _ (List.mem_append_right _ (List.mem_append_left _ (List.mem_of_getElem? (i := 216) (by decide +kernel)))))) (by decide +kernel)
theorem mw_ml_5_91 : (Cond.methodLink RX5 91 yX5_takePart : Cond) ∈ cw := cw_of (List.mem_append_right _ (List.mem_append_right _ (List.mem_append_right _ (List.mem_append_left _ (List.mem_of_getElem? (i := 208) (by decide +kernel)))))) (by decide +kernel)
theorem mw_sel_X5_hold : (Cond.selects RX5 yX5_hold yX5_hold : Cond) ∈ cw := cw_of (List.mem_append_left _ (List.mem_of_getElem? (i := 17) (by decide +kernel))) (by decide +kernel)
theorem mw_sel_X5_release : (Cond.selects RX5 yX5_release yX5_release : Cond) ∈ cw := cw_of (List.mem_append_left _ (List.mem_of_getElem? (i := 20) (by decide +kernel))) (by decide +kernel)
theorem mw_sel_X5_takePart : (Cond.selects RX5 yX5_takePart yX5_takePart : Cond) ∈ cw := cw_of (List.mem_append_left _ (List.mem_of_getElem? (i := 16) (by decide +kernel))) (by decide +kernel)
theorem dX5_closeBracket_0 : decode cX5_closeBracket 0 = .ok (.aload_n 0, 1) := by decide +kernel
theorem dX5_closeBracket_1 : decode cX5_closeBracket 1 = .ok (.iconst 1, 1) := by decide +kernel
theorem dX5_closeBracket_2 : decode cX5_closeBracket 2 = .ok (.invokevirtual 105, 3) := by decide +kernel
theorem dX5_closeBracket_5 : decode cX5_closeBracket 5 = .ok (.aload_n 0, 1) := by decide +kernel
theorem dX5_closeBracket_6 : decode cX5_closeBracket 6 = .ok (.getfield 22, 3) := by decide +kernel
theorem dX5_closeBracket_9 : decode cX5_closeBracket 9 = .ok (.ifCond .le 13, 3) := by decide +kernel
theorem dX5_closeBracket_12 : decode cX5_closeBracket 12 = .ok (.aload_n 0, 1) := by decide +kernel
theorem dX5_closeBracket_13 : decode cX5_closeBracket 13 = .ok (.dup, 1) := by decide +kernel
theorem dX5_closeBracket_14 : decode cX5_closeBracket 14 = .ok (.getfield 22, 3) := by decide +kernel
theorem dX5_closeBracket_17 : decode cX5_closeBracket 17 = .ok (.iconst 1, 1) := by decide +kernel
theorem dX5_closeBracket_18 : decode cX5_closeBracket 18 = .ok (.isub, 1) := by decide +kernel
theorem dX5_closeBracket_19 : decode cX5_closeBracket 19 = .ok (.putfield 22, 3) := by decide +kernel
theorem dX5_closeBracket_22 : decode cX5_closeBracket 22 = .ok (.aload_n 0, 1) := by decide +kernel
theorem dX5_closeBracket_23 : decode cX5_closeBracket 23 = .ok (.dup, 1) := by decide +kernel
theorem dX5_closeBracket_24 : decode cX5_closeBracket 24 = .ok (.getfield 26, 3) := by decide +kernel
theorem dX5_closeBracket_27 : decode cX5_closeBracket 27 = .ok (.iconst 1, 1) := by decide +kernel
theorem dX5_closeBracket_28 : decode cX5_closeBracket 28 = .ok (.isub, 1) := by decide +kernel
theorem dX5_closeBracket_29 : decode cX5_closeBracket 29 = .ok (.putfield 26, 3) := by decide +kernel
theorem dX5_closeBracket_32 : decode cX5_closeBracket 32 = .ok (.aload_n 0, 1) := by decide +kernel
theorem dX5_closeBracket_33 : decode cX5_closeBracket 33 = .ok (.dup, 1) := by decide +kernel
theorem dX5_closeBracket_34 : decode cX5_closeBracket 34 = .ok (.getfield 29, 3) := by decide +kernel
theorem dX5_closeBracket_37 : decode cX5_closeBracket 37 = .ok (.iconst 1, 1) := by decide +kernel
theorem dX5_closeBracket_38 : decode cX5_closeBracket 38 = .ok (.isub, 1) := by decide +kernel
theorem dX5_closeBracket_39 : decode cX5_closeBracket 39 = .ok (.putfield 29, 3) := by decide +kernel
theorem dX5_closeBracket_42 : decode cX5_closeBracket 42 = .ok (.aload_n 0, 1) := by decide +kernel
theorem dX5_closeBracket_43 : decode cX5_closeBracket 43 = .ok (.iconst 3, 1) := by decide +kernel
theorem dX5_closeBracket_44 : decode cX5_closeBracket 44 = .ok (.putfield 38, 3) := by decide +kernel
theorem dX5_closeBracket_47 : decode cX5_closeBracket 47 = .ok (.return_, 1) := by decide +kernel
theorem dX5_takeClause_0 : decode cX5_takeClause 0 = .ok (.aload_n 0, 1) := by decide +kernel
theorem dX5_takeClause_1 : decode cX5_takeClause 1 = .ok (.getfield 12, 3) := by decide +kernel
theorem dX5_takeClause_4 : decode cX5_takeClause 4 = .ok (.getfield 75, 3) := by decide +kernel
theorem dX5_takeClause_7 : decode cX5_takeClause 7 = .ok (.bipush 11, 2) := by decide +kernel
theorem dX5_takeClause_9 : decode cX5_takeClause 9 = .ok (.if_icmp .eq 14, 3) := by decide +kernel
theorem dX5_takeClause_12 : decode cX5_takeClause 12 = .ok (.aload_n 0, 1) := by decide +kernel
theorem dX5_takeClause_13 : decode cX5_takeClause 13 = .ok (.getfield 12, 3) := by decide +kernel
theorem dX5_takeClause_16 : decode cX5_takeClause 16 = .ok (.iconst 0, 1) := by decide +kernel
theorem dX5_takeClause_17 : decode cX5_takeClause 17 = .ok (.invokevirtual 78, 3) := by decide +kernel
theorem dX5_takeClause_20 : decode cX5_takeClause 20 = .ok (.goto 36, 3) := by decide +kernel
theorem dX5_takeClause_23 : decode cX5_takeClause 23 = .ok (.aload_n 0, 1) := by decide +kernel
theorem dX5_takeClause_24 : decode cX5_takeClause 24 = .ok (.getfield 44, 3) := by decide +kernel
theorem dX5_takeClause_27 : decode cX5_takeClause 27 = .ok (.getfield 82, 3) := by decide +kernel
theorem dX5_takeClause_30 : decode cX5_takeClause 30 = .ok (.bipush 12, 2) := by decide +kernel
theorem dX5_takeClause_32 : decode cX5_takeClause 32 = .ok (.if_icmp .lt 14, 3) := by decide +kernel
theorem dX5_takeClause_35 : decode cX5_takeClause 35 = .ok (.aload_n 0, 1) := by decide +kernel
theorem dX5_takeClause_36 : decode cX5_takeClause 36 = .ok (.getfield 12, 3) := by decide +kernel
theorem dX5_takeClause_39 : decode cX5_takeClause 39 = .ok (.iconst 4, 1) := by decide +kernel
theorem dX5_takeClause_40 : decode cX5_takeClause 40 = .ok (.invokevirtual 78, 3) := by decide +kernel
theorem dX5_takeClause_43 : decode cX5_takeClause 43 = .ok (.goto 13, 3) := by decide +kernel
theorem dX5_takeClause_46 : decode cX5_takeClause 46 = .ok (.aload_n 0, 1) := by decide +kernel
theorem dX5_takeClause_47 : decode cX5_takeClause 47 = .ok (.iconst 0, 1) := by decide +kernel
theorem dX5_takeClause_48 : decode cX5_takeClause 48 = .ok (.putfield 38, 3) := by decide +kernel
theorem dX5_takeClause_51 : decode cX5_takeClause 51 = .ok (.aload_n 0, 1) := by decide +kernel
theorem dX5_takeClause_52 : decode cX5_takeClause 52 = .ok (.iconst 2, 1) := by decide +kernel
theorem dX5_takeClause_53 : decode cX5_takeClause 53 = .ok (.putfield 35, 3) := by decide +kernel
theorem dX5_takeClause_56 : decode cX5_takeClause 56 = .ok (.return_, 1) := by decide +kernel
theorem dX5_takeOperator_0 : decode cX5_takeOperator 0 = .ok (.aload_n 0, 1) := by decide +kernel
theorem dX5_takeOperator_1 : decode cX5_takeOperator 1 = .ok (.iload_n 1, 1) := by decide +kernel
theorem dX5_takeOperator_2 : decode cX5_takeOperator 2 = .ok (.invokevirtual 105, 3) := by decide +kernel
theorem dX5_takeOperator_5 : decode cX5_takeOperator 5 = .ok (.aload_n 0, 1) := by decide +kernel
theorem dX5_takeOperator_6 : decode cX5_takeOperator 6 = .ok (.aload_n 0, 1) := by decide +kernel
theorem dX5_takeOperator_7 : decode cX5_takeOperator 7 = .ok (.getfield 12, 3) := by decide +kernel
theorem dX5_takeOperator_10 : decode cX5_takeOperator 10 = .ok (.getfield 75, 3) := by decide +kernel
theorem dX5_takeOperator_13 : decode cX5_takeOperator 13 = .ok (.invokevirtual 85, 3) := by decide +kernel
theorem dX5_takeOperator_16 : decode cX5_takeOperator 16 = .ok (.aload_n 0, 1) := by decide +kernel
theorem dX5_takeOperator_17 : decode cX5_takeOperator 17 = .ok (.iload_n 2, 1) := by decide +kernel
theorem dX5_takeOperator_18 : decode cX5_takeOperator 18 = .ok (.putfield 35, 3) := by decide +kernel
theorem dX5_takeOperator_21 : decode cX5_takeOperator 21 = .ok (.return_, 1) := by decide +kernel
theorem dX5_takeValue_0 : decode cX5_takeValue 0 = .ok (.aload_n 0, 1) := by decide +kernel
theorem dX5_takeValue_1 : decode cX5_takeValue 1 = .ok (.getfield 12, 3) := by decide +kernel
theorem dX5_takeValue_4 : decode cX5_takeValue 4 = .ok (.getfield 75, 3) := by decide +kernel
theorem dX5_takeValue_7 : decode cX5_takeValue 7 = .ok (.bipush 42, 2) := by decide +kernel
theorem dX5_takeValue_9 : decode cX5_takeValue 9 = .ok (.if_icmp .ne 7, 3) := by decide +kernel
theorem dX5_takeValue_12 : decode cX5_takeValue 12 = .ok (.iconst 1, 1) := by decide +kernel
theorem dX5_takeValue_13 : decode cX5_takeValue 13 = .ok (.goto 4, 3) := by decide +kernel
theorem dX5_takeValue_16 : decode cX5_takeValue 16 = .ok (.iconst 0, 1) := by decide +kernel
theorem dX5_takeValue_17 : decode cX5_takeValue 17 = .ok (.istore_n 1, 1) := by decide +kernel
theorem dX5_takeValue_18 : decode cX5_takeValue 18 = .ok (.iload_n 1, 1) := by decide +kernel
theorem dX5_takeValue_19 : decode cX5_takeValue 19 = .ok (.ifCond .ne 26, 3) := by decide +kernel
theorem dX5_takeValue_22 : decode cX5_takeValue 22 = .ok (.aload_n 0, 1) := by decide +kernel
theorem dX5_takeValue_23 : decode cX5_takeValue 23 = .ok (.getfield 12, 3) := by decide +kernel
theorem dX5_takeValue_26 : decode cX5_takeValue 26 = .ok (.getfield 75, 3) := by decide +kernel
theorem dX5_takeValue_29 : decode cX5_takeValue 29 = .ok (.bipush 11, 2) := by decide +kernel
theorem dX5_takeValue_31 : decode cX5_takeValue 31 = .ok (.if_icmp .lt 14, 3) := by decide +kernel
theorem dX5_takeValue_34 : decode cX5_takeValue 34 = .ok (.aload_n 0, 1) := by decide +kernel
theorem dX5_takeValue_35 : decode cX5_takeValue 35 = .ok (.getfield 12, 3) := by decide +kernel
theorem dX5_takeValue_38 : decode cX5_takeValue 38 = .ok (.iconst 0, 1) := by decide +kernel
theorem dX5_takeValue_39 : decode cX5_takeValue 39 = .ok (.invokevirtual 78, 3) := by decide +kernel
theorem dX5_takeValue_42 : decode cX5_takeValue 42 = .ok (.goto 68, 3) := by decide +kernel
theorem dX5_takeValue_45 : decode cX5_takeValue 45 = .ok (.iload_n 1, 1) := by decide +kernel
theorem dX5_takeValue_46 : decode cX5_takeValue 46 = .ok (.ifCond .eq 24, 3) := by decide +kernel
theorem dX5_takeValue_49 : decode cX5_takeValue 49 = .ok (.aload_n 0, 1) := by decide +kernel
theorem dX5_takeValue_50 : decode cX5_takeValue 50 = .ok (.getfield 12, 3) := by decide +kernel
theorem dX5_takeValue_53 : decode cX5_takeValue 53 = .ok (.getfield 88, 3) := by decide +kernel
theorem dX5_takeValue_56 : decode cX5_takeValue 56 = .ok (.ifCond .ge 14, 3) := by decide +kernel
theorem dX5_takeValue_59 : decode cX5_takeValue 59 = .ok (.aload_n 0, 1) := by decide +kernel
theorem dX5_takeValue_60 : decode cX5_takeValue 60 = .ok (.getfield 12, 3) := by decide +kernel
theorem dX5_takeValue_63 : decode cX5_takeValue 63 = .ok (.iconst 1, 1) := by decide +kernel
theorem dX5_takeValue_64 : decode cX5_takeValue 64 = .ok (.invokevirtual 78, 3) := by decide +kernel
theorem dX5_takeValue_67 : decode cX5_takeValue 67 = .ok (.goto 43, 3) := by decide +kernel
theorem dX5_takeValue_70 : decode cX5_takeValue 70 = .ok (.aload_n 0, 1) := by decide +kernel
theorem dX5_takeValue_71 : decode cX5_takeValue 71 = .ok (.invokevirtual 91, 3) := by decide +kernel
theorem dX5_takeValue_74 : decode cX5_takeValue 74 = .ok (.aload_n 0, 1) := by decide +kernel
theorem dX5_takeValue_75 : decode cX5_takeValue 75 = .ok (.getfield 44, 3) := by decide +kernel
theorem dX5_takeValue_78 : decode cX5_takeValue 78 = .ok (.iload_n 1, 1) := by decide +kernel
theorem dX5_takeValue_79 : decode cX5_takeValue 79 = .ok (.ifCond .eq 16, 3) := by decide +kernel
theorem dX5_takeValue_82 : decode cX5_takeValue 82 = .ok (.bipush 64, 2) := by decide +kernel
theorem dX5_takeValue_84 : decode cX5_takeValue 84 = .ok (.aload_n 0, 1) := by decide +kernel
theorem dX5_takeValue_85 : decode cX5_takeValue 85 = .ok (.getfield 12, 3) := by decide +kernel
theorem dX5_takeValue_88 : decode cX5_takeValue 88 = .ok (.getfield 88, 3) := by decide +kernel
theorem dX5_takeValue_91 : decode cX5_takeValue 91 = .ok (.iadd, 1) := by decide +kernel
theorem dX5_takeValue_92 : decode cX5_takeValue 92 = .ok (.goto 10, 3) := by decide +kernel
theorem dX5_takeValue_95 : decode cX5_takeValue 95 = .ok (.aload_n 0, 1) := by decide +kernel
theorem dX5_takeValue_96 : decode cX5_takeValue 96 = .ok (.getfield 12, 3) := by decide +kernel
theorem dX5_takeValue_99 : decode cX5_takeValue 99 = .ok (.getfield 75, 3) := by decide +kernel
theorem dX5_takeValue_102 : decode cX5_takeValue 102 = .ok (.invokevirtual 94, 3) := by decide +kernel
theorem dX5_takeValue_105 : decode cX5_takeValue 105 = .ok (.aload_n 0, 1) := by decide +kernel
theorem dX5_takeValue_106 : decode cX5_takeValue 106 = .ok (.iconst 3, 1) := by decide +kernel
theorem dX5_takeValue_107 : decode cX5_takeValue 107 = .ok (.putfield 35, 3) := by decide +kernel
theorem dX5_takeValue_110 : decode cX5_takeValue 110 = .ok (.return_, 1) := by decide +kernel
theorem hd_X5_hold : yX5_hold.cls ≠ "java/lang/invoke/MethodHandle" ∧ yX5_hold.cls ≠ "java/lang/invoke/VarHandle" ∧ (parseMethodDescriptor yX5_hold.desc).map (fun d => d.parameters.length) = some 1 := ⟨by decide +kernel, by decide +kernel, by decide +kernel⟩
theorem hd_X5_release : yX5_release.cls ≠ "java/lang/invoke/MethodHandle" ∧ yX5_release.cls ≠ "java/lang/invoke/VarHandle" ∧ (parseMethodDescriptor yX5_release.desc).map (fun d => d.parameters.length) = some 1 := ⟨by decide +kernel, by decide +kernel, by decide +kernel⟩
theorem hd_X5_takePart : yX5_takePart.cls ≠ "java/lang/invoke/MethodHandle" ∧ yX5_takePart.cls ≠ "java/lang/invoke/VarHandle" ∧ (parseMethodDescriptor yX5_takePart.desc).map (fun d => d.parameters.length) = some 0 := ⟨by decide +kernel, by decide +kernel, by decide +kernel⟩
set_option maxHeartbeats 4000000 in
set_option maxRecDepth 100000 in
theorem rr_closeBracket (l : Launch) (D : va_G) (K : Nat → ClassId) (ad : Nat → Nat) (z : TS) (o : Ok z) : cV l yX5_closeBracket cX5_closeBracket 1 ({ frames := 2, cells := 0, slots := 0, locals := 42 }) D K ad z [.ref (ad 5)] (fun u => Ok u ∧ KC z u ∧ tI u 0 5 = tI z 0 5) := by
  refine t_enterV (by decide) (Nat.le_of_ble_eq_true rfl) rfl rfl ?_
  intro p e s m args below meth c A R Q H locs ls E hfr hlo RET G hl
  have E : mE p s m meth c cX5_closeBracket args 1 RX5 D K A := E
  have hl : lv_has ls 1 [(0, .ref (ad 5))] := hl
  refine lv_aload_n E.1 E.2.1 dX5_closeBracket_0 rfl (lv_at hl 0 rfl) ?_
  refine lv_iconst (v := 1) E.1 E.2.1 dX5_closeBracket_1 (by decide) ?_
  refine t_vv E G hl (rr_release l D K ad z o (1 : Int32)) 5 (rfl : ro 5 = 5) (by decide) rfl rfl 1 rfl mw_code_X5_release mw_ini_5 mw_ml_5_105 mw_inst_X5_release mw_sel_X5_release hd_X5_release ⟨Nat.le_trans (by decide) hfr, Nat.le_trans (by decide) hlo⟩ rfl rfl rfl (Nat.le_of_ble_eq_true rfl) dX5_closeBracket_2 (fun zz1 H locs hp3 G => ?_)
  obtain ⟨oo4, kk5, h6⟩ := hp3
  have kk7 : KC z zz1 := KC.tr KC.rf kk5
  refine lv_aload_n E.1 E.2.1 dX5_closeBracket_5 rfl (lv_at hl 0 rfl) ?_
  refine t_get E G 5 2 (rfl : ro 5 = 5) (C := RX5) (T := TX5) (N := 9) rfl (by decide) (by decide) (by decide) mw_fl_5_22 (fvl_i rfl) dX5_closeBracket_6 ?_
  refine lv_topi (fun v8 e9 => ?_)
  have b10 : iv 0 400 v8 := by rw [e9]; exact oo4.i 5 2 (rfl : ro 5 = 5)
  refine lv_if_le (tgt := 22) E.1 E.2.1 dX5_closeBracket_9 (by decide) (fun c11 => ?_) (fun c11 => ?_)
  · skip
    have b12 : iv 0 0 v8 := le_l c11 b10 (iv_lit (lo := 0) (hi := 0) 0 (by decide) (by decide)) (by decide)
    refine lv_aload_n E.1 E.2.1 dX5_closeBracket_22 rfl (lv_at hl 0 rfl) ?_
    refine lv_dup E.1 E.2.1 dX5_closeBracket_23 rfl ?_
    refine t_get E G 5 3 (rfl : ro 5 = 5) (C := RX5) (T := TX5) (N := 9) rfl (by decide) (by decide) (by decide) mw_fl_5_26 (fvl_i rfl) dX5_closeBracket_24 ?_
    refine lv_topi (fun v13 e14 => ?_)
    refine lv_iconst (v := 1) E.1 E.2.1 dX5_closeBracket_27 (by decide) ?_
    refine lv_isub E.1 E.2.1 dX5_closeBracket_28 ?_
    refine lv_topi (fun v15 e16 => ?_)
    refine t_puti E G 5 3 (rfl : ro 5 = 5) (C := RX5) (T := TX5) (N := 9) rfl (by decide) (by decide) (by decide) rfl rfl mw_fl_5_26 rfl dX5_closeBracket_29 (fun H locs G => ?_)
    obtain ⟨zz17, G, oo18, kk19, h20, h21, h22⟩ : ∃ u : TS, mG D A s H locs (wd K ad u) ∧ Ok u ∧ KC z u ∧ tI u 0 5 = (tI z 0 5) ∧ tI u 5 2 = v8 ∧ tI u 5 3 = v15 := ⟨_, G, ok_i oo4 5 (rfl : ro 5 = 5) (iv_mono (iv_full v15) (by decide) (by decide)) (by decide), KC.tr kk7 (KC_i 5 (rfl : ro 5 = 5) (by decide)), (sI_k (h6.trans rfl) (by decide)), (sI_k e9.symm (by decide)), sI_self⟩
    refine lv_aload_n E.1 E.2.1 dX5_closeBracket_32 rfl (lv_at hl 0 rfl) ?_
    refine lv_dup E.1 E.2.1 dX5_closeBracket_33 rfl ?_
    refine t_get E G 5 4 (rfl : ro 5 = 5) (C := RX5) (T := TX5) (N := 9) rfl (by decide) (by decide) (by decide) mw_fl_5_29 (fvl_i rfl) dX5_closeBracket_34 ?_
    refine lv_topi (fun v23 e24 => ?_)
    refine lv_iconst (v := 1) E.1 E.2.1 dX5_closeBracket_37 (by decide) ?_
    refine lv_isub E.1 E.2.1 dX5_closeBracket_38 ?_
    refine lv_topi (fun v25 e26 => ?_)
    refine t_puti E G 5 4 (rfl : ro 5 = 5) (C := RX5) (T := TX5) (N := 9) rfl (by decide) (by decide) (by decide) rfl rfl mw_fl_5_29 rfl dX5_closeBracket_39 (fun H locs G => ?_)
    obtain ⟨zz27, G, oo28, kk29, h30, h31, h32, h33⟩ : ∃ u : TS, mG D A s H locs (wd K ad u) ∧ Ok u ∧ KC z u ∧ tI u 0 5 = (tI z 0 5) ∧ tI u 5 2 = v8 ∧ tI u 5 3 = v15 ∧ tI u 5 4 = v25 := ⟨_, G, ok_i oo18 5 (rfl : ro 5 = 5) (iv_mono (iv_full v25) (by decide) (by decide)) (by decide), KC.tr kk19 (KC_i 5 (rfl : ro 5 = 5) (by decide)), (sI_k h20 (by decide)), (sI_k h21 (by decide)), (sI_k h22 (by decide)), sI_self⟩
    refine lv_aload_n E.1 E.2.1 dX5_closeBracket_42 rfl (lv_at hl 0 rfl) ?_
    refine lv_iconst (v := 3) E.1 E.2.1 dX5_closeBracket_43 (by decide) ?_
    refine t_puti E G 5 7 (rfl : ro 5 = 5) (C := RX5) (T := TX5) (N := 9) rfl (by decide) (by decide) (by decide) rfl rfl mw_fl_5_38 rfl dX5_closeBracket_44 (fun H locs G => ?_)
    obtain ⟨zz34, G, oo35, kk36, h37, h38, h39, h40, h41⟩ : ∃ u : TS, mG D A s H locs (wd K ad u) ∧ Ok u ∧ KC z u ∧ tI u 0 5 = (tI z 0 5) ∧ tI u 5 2 = v8 ∧ tI u 5 3 = v15 ∧ tI u 5 4 = v25 ∧ tI u 5 7 = 3 := ⟨_, G, ok_i oo28 5 (rfl : ro 5 = 5) (iv_mono (iv_lit (lo := 3) (hi := 3) 3 (by decide) (by decide)) (by decide) (by decide)) (by decide), KC.tr kk29 (KC_i 5 (rfl : ro 5 = 5) (by decide)), (sI_k h30 (by decide)), (sI_k h31 (by decide)), (sI_k h32 (by decide)), (sI_k h33 (by decide)), sI_self⟩
    exact RET G ⟨oo35, kk36, h37⟩ dX5_closeBracket_47
  · skip
    have b42 : iv 1 400 v8 := lt_r (Int32.not_le.mp c11) (iv_lit (lo := 0) (hi := 0) 0 (by decide) (by decide)) b10 (by decide)
    refine lv_aload_n E.1 E.2.1 dX5_closeBracket_12 rfl (lv_at hl 0 rfl) ?_
    refine lv_dup E.1 E.2.1 dX5_closeBracket_13 rfl ?_
    refine t_get E G 5 2 (rfl : ro 5 = 5) (C := RX5) (T := TX5) (N := 9) rfl (by decide) (by decide) (by decide) mw_fl_5_22 (fvl_i rfl) dX5_closeBracket_14 ?_
    refine m_ci v8 e9.symm ?_
    refine lv_iconst (v := 1) E.1 E.2.1 dX5_closeBracket_17 (by decide) ?_
    refine lv_isub E.1 E.2.1 dX5_closeBracket_18 ?_
    refine lv_topi (fun v43 e44 => ?_)
    have b45 : iv 0 399 v43 := by rw [e44]; exact iv_sub b42 (iv_lit (lo := 1) (hi := 1) 1 (by decide) (by decide)) (by decide) (by decide) (by decide) (by decide)
    refine t_puti E G 5 2 (rfl : ro 5 = 5) (C := RX5) (T := TX5) (N := 9) rfl (by decide) (by decide) (by decide) rfl rfl mw_fl_5_22 rfl dX5_closeBracket_19 (fun H locs G => ?_)
    obtain ⟨zz46, G, oo47, kk48, h49, h50⟩ : ∃ u : TS, mG D A s H locs (wd K ad u) ∧ Ok u ∧ KC z u ∧ tI u 0 5 = (tI z 0 5) ∧ tI u 5 2 = v43 := ⟨_, G, ok_i oo4 5 (rfl : ro 5 = 5) (iv_mono b45 (by decide) (by decide)) (by decide), KC.tr kk7 (KC_i 5 (rfl : ro 5 = 5) (by decide)), (sI_k (h6.trans rfl) (by decide)), sI_self⟩
    refine lv_aload_n E.1 E.2.1 dX5_closeBracket_22 rfl (lv_at hl 0 rfl) ?_
    refine lv_dup E.1 E.2.1 dX5_closeBracket_23 rfl ?_
    refine t_get E G 5 3 (rfl : ro 5 = 5) (C := RX5) (T := TX5) (N := 9) rfl (by decide) (by decide) (by decide) mw_fl_5_26 (fvl_i rfl) dX5_closeBracket_24 ?_
    refine lv_topi (fun v51 e52 => ?_)
    refine lv_iconst (v := 1) E.1 E.2.1 dX5_closeBracket_27 (by decide) ?_
    refine lv_isub E.1 E.2.1 dX5_closeBracket_28 ?_
    refine lv_topi (fun v53 e54 => ?_)
    refine t_puti E G 5 3 (rfl : ro 5 = 5) (C := RX5) (T := TX5) (N := 9) rfl (by decide) (by decide) (by decide) rfl rfl mw_fl_5_26 rfl dX5_closeBracket_29 (fun H locs G => ?_)
    obtain ⟨zz55, G, oo56, kk57, h58, h59, h60⟩ : ∃ u : TS, mG D A s H locs (wd K ad u) ∧ Ok u ∧ KC z u ∧ tI u 0 5 = (tI z 0 5) ∧ tI u 5 2 = v43 ∧ tI u 5 3 = v53 := ⟨_, G, ok_i oo47 5 (rfl : ro 5 = 5) (iv_mono (iv_full v53) (by decide) (by decide)) (by decide), KC.tr kk48 (KC_i 5 (rfl : ro 5 = 5) (by decide)), (sI_k h49 (by decide)), (sI_k h50 (by decide)), sI_self⟩
    refine lv_aload_n E.1 E.2.1 dX5_closeBracket_32 rfl (lv_at hl 0 rfl) ?_
    refine lv_dup E.1 E.2.1 dX5_closeBracket_33 rfl ?_
    refine t_get E G 5 4 (rfl : ro 5 = 5) (C := RX5) (T := TX5) (N := 9) rfl (by decide) (by decide) (by decide) mw_fl_5_29 (fvl_i rfl) dX5_closeBracket_34 ?_
    refine lv_topi (fun v61 e62 => ?_)
    refine lv_iconst (v := 1) E.1 E.2.1 dX5_closeBracket_37 (by decide) ?_
    refine lv_isub E.1 E.2.1 dX5_closeBracket_38 ?_
    refine lv_topi (fun v63 e64 => ?_)
    refine t_puti E G 5 4 (rfl : ro 5 = 5) (C := RX5) (T := TX5) (N := 9) rfl (by decide) (by decide) (by decide) rfl rfl mw_fl_5_29 rfl dX5_closeBracket_39 (fun H locs G => ?_)
    obtain ⟨zz65, G, oo66, kk67, h68, h69, h70, h71⟩ : ∃ u : TS, mG D A s H locs (wd K ad u) ∧ Ok u ∧ KC z u ∧ tI u 0 5 = (tI z 0 5) ∧ tI u 5 2 = v43 ∧ tI u 5 3 = v53 ∧ tI u 5 4 = v63 := ⟨_, G, ok_i oo56 5 (rfl : ro 5 = 5) (iv_mono (iv_full v63) (by decide) (by decide)) (by decide), KC.tr kk57 (KC_i 5 (rfl : ro 5 = 5) (by decide)), (sI_k h58 (by decide)), (sI_k h59 (by decide)), (sI_k h60 (by decide)), sI_self⟩
    refine lv_aload_n E.1 E.2.1 dX5_closeBracket_42 rfl (lv_at hl 0 rfl) ?_
    refine lv_iconst (v := 3) E.1 E.2.1 dX5_closeBracket_43 (by decide) ?_
    refine t_puti E G 5 7 (rfl : ro 5 = 5) (C := RX5) (T := TX5) (N := 9) rfl (by decide) (by decide) (by decide) rfl rfl mw_fl_5_38 rfl dX5_closeBracket_44 (fun H locs G => ?_)
    obtain ⟨zz72, G, oo73, kk74, h75, h76, h77, h78, h79⟩ : ∃ u : TS, mG D A s H locs (wd K ad u) ∧ Ok u ∧ KC z u ∧ tI u 0 5 = (tI z 0 5) ∧ tI u 5 2 = v43 ∧ tI u 5 3 = v53 ∧ tI u 5 4 = v63 ∧ tI u 5 7 = 3 := ⟨_, G, ok_i oo66 5 (rfl : ro 5 = 5) (iv_mono (iv_lit (lo := 3) (hi := 3) 3 (by decide) (by decide)) (by decide) (by decide)) (by decide), KC.tr kk67 (KC_i 5 (rfl : ro 5 = 5) (by decide)), (sI_k h68 (by decide)), (sI_k h69 (by decide)), (sI_k h70 (by decide)), (sI_k h71 (by decide)), sI_self⟩
    exact RET G ⟨oo73, kk74, h75⟩ dX5_closeBracket_47
set_option maxHeartbeats 4000000 in
set_option maxRecDepth 100000 in
theorem rr_takeOperator (l : Launch) (D : va_G) (K : Nat → ClassId) (ad : Nat → Nat) (z : TS) (o : Ok z) (x1 : Int32) (x2 : Int32) : cV l yX5_takeOperator cX5_takeOperator 3 ({ frames := 2, cells := 0, slots := 0, locals := 42 }) D K ad z [.ref (ad 5), .int x1, .int x2] (fun u => Ok u ∧ KC z u ∧ tI u 0 5 = tI z 0 5) := by
  refine t_enterV (by decide) (Nat.le_of_ble_eq_true rfl) rfl rfl ?_
  intro p e s m args below meth c A R Q H locs ls E hfr hlo RET G hl
  have E : mE p s m meth c cX5_takeOperator args 3 RX5 D K A := E
  have hl : lv_has ls 3 [(0, .ref (ad 5)), (1, .int x1), (2, .int x2)] := hl
  refine lv_aload_n E.1 E.2.1 dX5_takeOperator_0 rfl (lv_at hl 0 rfl) ?_
  refine lv_iload_n E.1 E.2.1 dX5_takeOperator_1 rfl (lv_at hl 1 rfl) ?_
  refine t_vv E G hl (rr_release l D K ad z o x1) 5 (rfl : ro 5 = 5) (by decide) rfl rfl 1 rfl mw_code_X5_release mw_ini_5 mw_ml_5_105 mw_inst_X5_release mw_sel_X5_release hd_X5_release ⟨Nat.le_trans (by decide) hfr, Nat.le_trans (by decide) hlo⟩ rfl rfl rfl (Nat.le_of_ble_eq_true rfl) dX5_takeOperator_2 (fun zz1 H locs hp3 G => ?_)
  obtain ⟨oo4, kk5, h6⟩ := hp3
  have kk7 : KC z zz1 := KC.tr KC.rf kk5
  refine lv_aload_n E.1 E.2.1 dX5_takeOperator_5 rfl (lv_at hl 0 rfl) ?_
  refine lv_aload_n E.1 E.2.1 dX5_takeOperator_6 rfl (lv_at hl 0 rfl) ?_
  refine t_get E G 5 0 (rfl : ro 5 = 5) (C := RX5) (T := TX5) (N := 9) rfl (by decide) (by decide) (by decide) mw_fl_5_12 (fvl_d rfl) dX5_takeOperator_7 ?_
  obtain ⟨qq8, eqq8⟩ : ∃ q : Nat, q = tP zz1 5 0 := ⟨_, rfl⟩
  have aqq8 : at_ 7 qq8 = true := by rw [eqq8]; exact oo4.p 5 0 (rfl : ro 5 = 5) (by decide)
  rw [← eqq8]
  refine t_get E G 7 3 (at_ro (i := 0) aqq8 (by decide) : ro qq8 = 7) (C := RX7) (T := TX7) (N := 7) rfl (by decide) (by decide) (by decide) mw_fl_5_75 (fvl_i rfl) dX5_takeOperator_10 ?_
  refine lv_topi (fun v9 e10 => ?_)
  have b11 : iv 0 42 v9 := by rw [e10]; exact oo4.i 7 3 (at_ro (i := 0) aqq8 (by decide) : ro qq8 = 7)
  refine t_vv E G hl (rr_hold l D K ad zz1 oo4 v9 (iv_mono b11 (by decide) (by decide))) 5 (rfl : ro 5 = 5) (by decide) rfl rfl 1 rfl mw_code_X5_hold mw_ini_5 mw_ml_5_85 mw_inst_X5_hold mw_sel_X5_hold hd_X5_hold ⟨Nat.le_trans (by decide) hfr, Nat.le_trans (by decide) hlo⟩ rfl rfl rfl (Nat.le_of_ble_eq_true rfl) dX5_takeOperator_13 (fun zz12 H locs hp14 G => ?_)
  obtain ⟨oo15, kk16, h17⟩ := hp14
  have kk18 : KC z zz12 := KC.tr kk7 kk16
  refine lv_aload_n E.1 E.2.1 dX5_takeOperator_16 rfl (lv_at hl 0 rfl) ?_
  refine lv_iload_n E.1 E.2.1 dX5_takeOperator_17 rfl (lv_at hl 2 rfl) ?_
  refine t_puti E G 5 6 (rfl : ro 5 = 5) (C := RX5) (T := TX5) (N := 9) rfl (by decide) (by decide) (by decide) rfl rfl mw_fl_5_35 rfl dX5_takeOperator_18 (fun H locs G => ?_)
  obtain ⟨zz19, G, oo20, kk21, h22, h23⟩ : ∃ u : TS, mG D A s H locs (wd K ad u) ∧ Ok u ∧ KC z u ∧ tI u 0 5 = (tI z 0 5) ∧ tI u 5 6 = x2 := ⟨_, G, ok_i oo15 5 (rfl : ro 5 = 5) (iv_mono (iv_full x2) (by decide) (by decide)) (by decide), KC.tr kk18 (KC_i 5 (rfl : ro 5 = 5) (by decide)), (sI_k (h17.trans (h6.trans rfl)) (by decide)), sI_self⟩
  exact RET G ⟨oo20, kk21, h22⟩ dX5_takeOperator_21
set_option maxHeartbeats 4000000 in
set_option maxRecDepth 100000 in
theorem rr_takeClause (l : Launch) (D : va_G) (K : Nat → ClassId) (ad : Nat → Nat) (z : TS) (o : Ok z) : cV l yX5_takeClause cX5_takeClause 1 ({ frames := 1, cells := 0, slots := 0, locals := 21 }) D K ad z [.ref (ad 5)] (fun u => Ok u ∧ KC z u ∧ tI u 0 5 = tI z 0 5) := by
  refine t_enterV (by decide) (Nat.le_of_ble_eq_true rfl) rfl rfl ?_
  intro p e s m args below meth c A R Q H locs ls E hfr hlo RET G hl
  have E : mE p s m meth c cX5_takeClause args 1 RX5 D K A := E
  have hl : lv_has ls 1 [(0, .ref (ad 5))] := hl
  refine lv_aload_n E.1 E.2.1 dX5_takeClause_0 rfl (lv_at hl 0 rfl) ?_
  refine t_get E G 5 0 (rfl : ro 5 = 5) (C := RX5) (T := TX5) (N := 9) rfl (by decide) (by decide) (by decide) mw_fl_5_12 (fvl_d rfl) dX5_takeClause_1 ?_
  obtain ⟨qq1, eqq1⟩ : ∃ q : Nat, q = tP z 5 0 := ⟨_, rfl⟩
  have aqq1 : at_ 7 qq1 = true := by rw [eqq1]; exact o.p 5 0 (rfl : ro 5 = 5) (by decide)
  rw [← eqq1]
  refine t_get E G 7 3 (at_ro (i := 0) aqq1 (by decide) : ro qq1 = 7) (C := RX7) (T := TX7) (N := 7) rfl (by decide) (by decide) (by decide) mw_fl_5_75 (fvl_i rfl) dX5_takeClause_4 ?_
  refine lv_topi (fun v2 e3 => ?_)
  have b4 : iv 0 42 v2 := by rw [e3]; exact o.i 7 3 (at_ro (i := 0) aqq1 (by decide) : ro qq1 = 7)
  refine lv_bipush (v := 11) E.1 E.2.1 dX5_takeClause_7 (by decide) ?_
  refine lv_icmp_eq (tgt := 23) E.1 E.2.1 dX5_takeClause_9 (by decide) (fun c5 => ?_) (fun c5 => ?_)
  · skip
    have b6 : iv 11 11 v2 := iv_eq c5 (iv_lit (lo := 11) (hi := 11) 11 (by decide) (by decide))
    refine lv_aload_n E.1 E.2.1 dX5_takeClause_23 rfl (lv_at hl 0 rfl) ?_
    refine t_get E G 5 8 (rfl : ro 5 = 5) (C := RX5) (T := TX5) (N := 9) rfl (by decide) (by decide) (by decide) mw_fl_5_44 (fvl_d rfl) dX5_takeClause_24 ?_
    obtain ⟨qq7, eqq7⟩ : ∃ q : Nat, q = tP z 5 8 := ⟨_, rfl⟩
    have aqq7 : at_ 4 qq7 = true := by rw [eqq7]; exact o.p 5 8 (rfl : ro 5 = 5) (by decide)
    rw [← eqq7]
    refine t_get E G 4 0 (at_ro (i := 0) aqq7 (by decide) : ro qq7 = 4) (C := RX4) (T := TX4) (N := 6) rfl (by decide) (by decide) (by decide) mw_fl_5_82 (fvl_i rfl) dX5_takeClause_27 ?_
    refine lv_topi (fun v8 e9 => ?_)
    have b10 : iv 0 12 v8 := by rw [e9]; exact o.i 4 0 (at_ro (i := 0) aqq7 (by decide) : ro qq7 = 4)
    refine lv_bipush (v := 12) E.1 E.2.1 dX5_takeClause_30 (by decide) ?_
    refine lv_icmp_lt (tgt := 46) E.1 E.2.1 dX5_takeClause_32 (by decide) (fun c11 => ?_) (fun c11 => ?_)
    · skip
      have b12 : iv 0 11 v8 := lt_l c11 b10 (iv_lit (lo := 12) (hi := 12) 12 (by decide) (by decide)) (by decide)
      refine lv_aload_n E.1 E.2.1 dX5_takeClause_46 rfl (lv_at hl 0 rfl) ?_
      refine lv_iconst (v := 0) E.1 E.2.1 dX5_takeClause_47 (by decide) ?_
      refine t_puti E G 5 7 (rfl : ro 5 = 5) (C := RX5) (T := TX5) (N := 9) rfl (by decide) (by decide) (by decide) rfl rfl mw_fl_5_38 rfl dX5_takeClause_48 (fun H locs G => ?_)
      obtain ⟨zz13, G, oo14, kk15, h16, h17, h18, h19, h20, h21⟩ : ∃ u : TS, mG D A s H locs (wd K ad u) ∧ Ok u ∧ KC z u ∧ tI u 0 5 = (tI z 0 5) ∧ tI u qq1 3 = v2 ∧ tI u qq7 0 = v8 ∧ tI u 5 7 = 0 ∧ tP u 5 0 = qq1 ∧ tP u 5 8 = qq7 := ⟨_, G, ok_i o 5 (rfl : ro 5 = 5) (iv_mono (iv_lit (lo := 0) (hi := 0) 0 (by decide) (by decide)) (by decide) (by decide)) (by decide), KC.tr KC.rf (KC_i 5 (rfl : ro 5 = 5) (by decide)), (sI_k rfl (by decide)), (sI_k e3.symm (by decide)), (sI_k e9.symm (by decide)), sI_self, eqq1.symm, eqq7.symm⟩
      refine lv_aload_n E.1 E.2.1 dX5_takeClause_51 rfl (lv_at hl 0 rfl) ?_
      refine lv_iconst (v := 2) E.1 E.2.1 dX5_takeClause_52 (by decide) ?_
      refine t_puti E G 5 6 (rfl : ro 5 = 5) (C := RX5) (T := TX5) (N := 9) rfl (by decide) (by decide) (by decide) rfl rfl mw_fl_5_35 rfl dX5_takeClause_53 (fun H locs G => ?_)
      obtain ⟨zz22, G, oo23, kk24, h25, h26, h27, h28, h29, h30, h31⟩ : ∃ u : TS, mG D A s H locs (wd K ad u) ∧ Ok u ∧ KC z u ∧ tI u 0 5 = (tI z 0 5) ∧ tI u qq1 3 = v2 ∧ tI u qq7 0 = v8 ∧ tI u 5 7 = 0 ∧ tI u 5 6 = 2 ∧ tP u 5 0 = qq1 ∧ tP u 5 8 = qq7 := ⟨_, G, ok_i oo14 5 (rfl : ro 5 = 5) (iv_mono (iv_lit (lo := 2) (hi := 2) 2 (by decide) (by decide)) (by decide) (by decide)) (by decide), KC.tr kk15 (KC_i 5 (rfl : ro 5 = 5) (by decide)), (sI_k h16 (by decide)), (sI_k h17 (by decide)), (sI_k h18 (by decide)), (sI_k h19 (by decide)), sI_self, h20, h21⟩
      exact RET G ⟨oo23, kk24, h25⟩ dX5_takeClause_56
    · skip
      have b32 : iv 12 12 v8 := le_r (Int32.not_lt.mp c11) (iv_lit (lo := 12) (hi := 12) 12 (by decide) (by decide)) b10 (by decide)
      refine lv_aload_n E.1 E.2.1 dX5_takeClause_35 rfl (lv_at hl 0 rfl) ?_
      refine t_get E G 5 0 (rfl : ro 5 = 5) (C := RX5) (T := TX5) (N := 9) rfl (by decide) (by decide) (by decide) mw_fl_5_12 (fvl_d rfl) dX5_takeClause_36 ?_
      rw [eqq1.symm]
      refine lv_iconst (v := 4) E.1 E.2.1 dX5_takeClause_39 (by decide) ?_
      refine t_vv E G hl (tp_blame l D K ad z o qq1 aqq1 (4 : Int32)) 7 (at_ro (i := 0) aqq1 (by decide) : ro qq1 = 7) (by decide) rfl rfl 1 rfl mw_code_X7_blame mw_ini_7 mw_ml_5_78 mw_inst_X7_blame mw_sel_X7_blame hd_X7_blame ⟨Nat.le_trans (by decide) hfr, Nat.le_trans (by decide) hlo⟩ rfl rfl rfl (Nat.le_of_ble_eq_true rfl) dX5_takeClause_40 (fun zz34 H locs hp36 G => ?_)
      obtain ⟨oo37, kk38⟩ := hp36
      have kk39 : KC z zz34 := KC.tr KC.rf (KT.c kk38)
      have h40 : tI zz34 0 5 = (tI z 0 5) := KF.i kk38 10 (rfl : ro 0 = 10) (by decide) rfl
      have h41 : tI zz34 qq7 0 = v8 := KF.i kk38 4 (at_ro (i := 0) aqq7 (by decide) : ro qq7 = 4) (by decide) e9.symm
      have h42 : tP zz34 5 0 = qq1 := KF.p kk38 eqq1.symm
      have h43 : tP zz34 5 8 = qq7 := KF.p kk38 eqq7.symm
      refine lv_goto (tgt := 56) E.1 E.2.1 dX5_takeClause_43 (by decide) ?_
      exact RET G ⟨oo37, kk39, h40⟩ dX5_takeClause_56
  · skip
    refine lv_aload_n E.1 E.2.1 dX5_takeClause_12 rfl (lv_at hl 0 rfl) ?_
    refine t_get E G 5 0 (rfl : ro 5 = 5) (C := RX5) (T := TX5) (N := 9) rfl (by decide) (by decide) (by decide) mw_fl_5_12 (fvl_d rfl) dX5_takeClause_13 ?_
    rw [eqq1.symm]
    refine lv_iconst (v := 0) E.1 E.2.1 dX5_takeClause_16 (by decide) ?_
    refine t_vv E G hl (tp_blame l D K ad z o qq1 aqq1 (0 : Int32)) 7 (at_ro (i := 0) aqq1 (by decide) : ro qq1 = 7) (by decide) rfl rfl 1 rfl mw_code_X7_blame mw_ini_7 mw_ml_5_78 mw_inst_X7_blame mw_sel_X7_blame hd_X7_blame ⟨Nat.le_trans (by decide) hfr, Nat.le_trans (by decide) hlo⟩ rfl rfl rfl (Nat.le_of_ble_eq_true rfl) dX5_takeClause_17 (fun zz45 H locs hp47 G => ?_)
    obtain ⟨oo48, kk49⟩ := hp47
    have kk50 : KC z zz45 := KC.tr KC.rf (KT.c kk49)
    have h51 : tI zz45 0 5 = (tI z 0 5) := KF.i kk49 10 (rfl : ro 0 = 10) (by decide) rfl
    have h52 : tP zz45 5 0 = qq1 := KF.p kk49 eqq1.symm
    refine lv_goto (tgt := 56) E.1 E.2.1 dX5_takeClause_20 (by decide) ?_
    exact RET G ⟨oo48, kk50, h51⟩ dX5_takeClause_56
set_option maxHeartbeats 4000000 in
set_option maxRecDepth 100000 in
theorem rr_takeValue (l : Launch) (D : va_G) (K : Nat → ClassId) (ad : Nat → Nat) (z : TS) (o : Ok z) : cV l yX5_takeValue cX5_takeValue 2 ({ frames := 2, cells := 0, slots := 0, locals := 41 }) D K ad z [.ref (ad 5)] (fun u => Ok u ∧ KC z u ∧ tI u 0 5 = tI z 0 5) := by
  refine t_enterV (by decide) (Nat.le_of_ble_eq_true rfl) rfl rfl ?_
  intro p e s m args below meth c A R Q H locs ls E hfr hlo RET G hl
  have E : mE p s m meth c cX5_takeValue args 2 RX5 D K A := E
  have hl : lv_has ls 2 [(0, .ref (ad 5))] := hl
  refine lv_aload_n E.1 E.2.1 dX5_takeValue_0 rfl (lv_at hl 0 rfl) ?_
  refine t_get E G 5 0 (rfl : ro 5 = 5) (C := RX5) (T := TX5) (N := 9) rfl (by decide) (by decide) (by decide) mw_fl_5_12 (fvl_d rfl) dX5_takeValue_1 ?_
  obtain ⟨qq1, eqq1⟩ : ∃ q : Nat, q = tP z 5 0 := ⟨_, rfl⟩
  have aqq1 : at_ 7 qq1 = true := by rw [eqq1]; exact o.p 5 0 (rfl : ro 5 = 5) (by decide)
  rw [← eqq1]
  refine t_get E G 7 3 (at_ro (i := 0) aqq1 (by decide) : ro qq1 = 7) (C := RX7) (T := TX7) (N := 7) rfl (by decide) (by decide) (by decide) mw_fl_5_75 (fvl_i rfl) dX5_takeValue_4 ?_
  refine lv_topi (fun v2 e3 => ?_)
  have b4 : iv 0 42 v2 := by rw [e3]; exact o.i 7 3 (at_ro (i := 0) aqq1 (by decide) : ro qq1 = 7)
  refine lv_bipush (v := 42) E.1 E.2.1 dX5_takeValue_7 (by decide) ?_
  refine lv_icmp_ne (tgt := 16) E.1 E.2.1 dX5_takeValue_9 (by decide) (fun c5 => ?_) (fun c5 => ?_)
  · skip
    have b6 : iv 0 41 v2 := ne_hi c5 b4 (by decide) (by decide)
    refine lv_iconst (v := 0) E.1 E.2.1 dX5_takeValue_16 (by decide) ?_
    refine lv_istore_n (lv' := [(1, .int 0), (0, .ref (ad 5))]) E.1 E.2.1 dX5_takeValue_17 rfl hl (by decide) rfl (fun ls hl => ?_)
    refine lv_iload_n E.1 E.2.1 dX5_takeValue_18 rfl (lv_at hl 0 rfl) ?_
    refine lv_if_ne (tgt := 45) E.1 E.2.1 dX5_takeValue_19 (by decide) (fun h => absurd (by decide) h) (fun _ => ?_)
    refine lv_aload_n E.1 E.2.1 dX5_takeValue_22 rfl (lv_at hl 1 rfl) ?_
    refine t_get E G 5 0 (rfl : ro 5 = 5) (C := RX5) (T := TX5) (N := 9) rfl (by decide) (by decide) (by decide) mw_fl_5_12 (fvl_d rfl) dX5_takeValue_23 ?_
    rw [eqq1.symm]
    refine t_get E G 7 3 (at_ro (i := 0) aqq1 (by decide) : ro qq1 = 7) (C := RX7) (T := TX7) (N := 7) rfl (by decide) (by decide) (by decide) mw_fl_5_75 (fvl_i rfl) dX5_takeValue_26 ?_
    refine m_ci v2 e3.symm ?_
    refine lv_bipush (v := 11) E.1 E.2.1 dX5_takeValue_29 (by decide) ?_
    refine lv_icmp_lt (tgt := 45) E.1 E.2.1 dX5_takeValue_31 (by decide) (fun c8 => ?_) (fun c8 => ?_)
    · skip
      have b9 : iv 0 10 v2 := lt_l c8 b6 (iv_lit (lo := 11) (hi := 11) 11 (by decide) (by decide)) (by decide)
      refine lv_iload_n E.1 E.2.1 dX5_takeValue_45 rfl (lv_at hl 0 rfl) ?_
      refine lv_if_eq (tgt := 70) E.1 E.2.1 dX5_takeValue_46 (by decide) (fun _ => ?_) (fun h => absurd (by decide) h)
      refine lv_aload_n E.1 E.2.1 dX5_takeValue_70 rfl (lv_at hl 1 rfl) ?_
      refine t_vv E G hl (rr_takePart l D K ad z o) 5 (rfl : ro 5 = 5) (by decide) rfl rfl 0 rfl mw_code_X5_takePart mw_ini_5 mw_ml_5_91 mw_inst_X5_takePart mw_sel_X5_takePart hd_X5_takePart ⟨Nat.le_trans (by decide) hfr, Nat.le_trans (by decide) hlo⟩ rfl rfl rfl (Nat.le_of_ble_eq_true rfl) dX5_takeValue_71 (fun zz10 H locs hp12 G => ?_)
      obtain ⟨oo13, kk14, h15⟩ := hp12
      have kk16 : KC z zz10 := KC.tr KC.rf kk14
      refine lv_aload_n E.1 E.2.1 dX5_takeValue_74 rfl (lv_at hl 1 rfl) ?_
      refine t_get E G 5 8 (rfl : ro 5 = 5) (C := RX5) (T := TX5) (N := 9) rfl (by decide) (by decide) (by decide) mw_fl_5_44 (fvl_d rfl) dX5_takeValue_75 ?_
      obtain ⟨qq17, eqq17⟩ : ∃ q : Nat, q = tP zz10 5 8 := ⟨_, rfl⟩
      have aqq17 : at_ 4 qq17 = true := by rw [eqq17]; exact oo13.p 5 8 (rfl : ro 5 = 5) (by decide)
      rw [← eqq17]
      refine lv_iload_n E.1 E.2.1 dX5_takeValue_78 rfl (lv_at hl 0 rfl) ?_
      refine lv_if_eq (tgt := 95) E.1 E.2.1 dX5_takeValue_79 (by decide) (fun _ => ?_) (fun h => absurd (by decide) h)
      refine lv_aload_n E.1 E.2.1 dX5_takeValue_95 rfl (lv_at hl 1 rfl) ?_
      refine t_get E G 5 0 (rfl : ro 5 = 5) (C := RX5) (T := TX5) (N := 9) rfl (by decide) (by decide) (by decide) mw_fl_5_12 (fvl_d rfl) dX5_takeValue_96 ?_
      obtain ⟨qq18, eqq18⟩ : ∃ q : Nat, q = tP zz10 5 0 := ⟨_, rfl⟩
      have aqq18 : at_ 7 qq18 = true := by rw [eqq18]; exact oo13.p 5 0 (rfl : ro 5 = 5) (by decide)
      rw [← eqq18]
      refine t_get E G 7 3 (at_ro (i := 0) aqq18 (by decide) : ro qq18 = 7) (C := RX7) (T := TX7) (N := 7) rfl (by decide) (by decide) (by decide) mw_fl_5_75 (fvl_i rfl) dX5_takeValue_99 ?_
      refine lv_topi (fun v19 e20 => ?_)
      have b21 : iv 0 42 v19 := by rw [e20]; exact oo13.i 7 3 (at_ro (i := 0) aqq18 (by decide) : ro qq18 = 7)
      refine t_vv E G hl (r_write l D K ad zz10 oo13 qq17 aqq17 v19 (iv_mono b21 (by decide) (by decide))) 4 (at_ro (i := 0) aqq17 (by decide) : ro qq17 = 4) (by decide) rfl rfl 1 rfl mw_code_X4_write mw_ini_4 mw_ml_5_94 mw_inst_X4_write mw_sel_X4_write hd_X4_write ⟨Nat.le_trans (by decide) hfr, Nat.le_trans (by decide) hlo⟩ rfl rfl rfl (Nat.le_of_ble_eq_true rfl) dX5_takeValue_102 (fun zz22 H locs hp24 G => ?_)
      obtain ⟨oo25, kk26⟩ := hp24
      have kk27 : KC z zz22 := KC.tr kk16 (KW.c kk26)
      have h28 : tI zz22 0 5 = (tI z 0 5) := KF.i kk26 10 (rfl : ro 0 = 10) (by decide) (h15.trans rfl)
      have h29 : tI zz22 qq18 3 = v19 := KF.i kk26 7 (at_ro (i := 0) aqq18 (by decide) : ro qq18 = 7) (by decide) e20.symm
      have h30 : tP zz22 5 8 = qq17 := KF.p kk26 eqq17.symm
      have h31 : tP zz22 5 0 = qq18 := KF.p kk26 eqq18.symm
      refine lv_aload_n E.1 E.2.1 dX5_takeValue_105 rfl (lv_at hl 1 rfl) ?_
      refine lv_iconst (v := 3) E.1 E.2.1 dX5_takeValue_106 (by decide) ?_
      refine t_puti E G 5 6 (rfl : ro 5 = 5) (C := RX5) (T := TX5) (N := 9) rfl (by decide) (by decide) (by decide) rfl rfl mw_fl_5_35 rfl dX5_takeValue_107 (fun H locs G => ?_)
      obtain ⟨zz32, G, oo33, kk34, h35, h36, h37, h38, h39⟩ : ∃ u : TS, mG D A s H locs (wd K ad u) ∧ Ok u ∧ KC z u ∧ tI u 0 5 = (tI z 0 5) ∧ tI u qq18 3 = v19 ∧ tI u 5 6 = 3 ∧ tP u 5 8 = qq17 ∧ tP u 5 0 = qq18 := ⟨_, G, ok_i oo25 5 (rfl : ro 5 = 5) (iv_mono (iv_lit (lo := 3) (hi := 3) 3 (by decide) (by decide)) (by decide) (by decide)) (by decide), KC.tr kk27 (KC_i 5 (rfl : ro 5 = 5) (by decide)), (sI_k h28 (by decide)), (sI_k h29 (by decide)), sI_self, h30, h31⟩
      exact RET G ⟨oo33, kk34, h35⟩ dX5_takeValue_110
    · skip
      have b40 : iv 11 41 v2 := le_r (Int32.not_lt.mp c8) (iv_lit (lo := 11) (hi := 11) 11 (by decide) (by decide)) b6 (by decide)
      refine lv_aload_n E.1 E.2.1 dX5_takeValue_34 rfl (lv_at hl 1 rfl) ?_
      refine t_get E G 5 0 (rfl : ro 5 = 5) (C := RX5) (T := TX5) (N := 9) rfl (by decide) (by decide) (by decide) mw_fl_5_12 (fvl_d rfl) dX5_takeValue_35 ?_
      rw [eqq1.symm]
      refine lv_iconst (v := 0) E.1 E.2.1 dX5_takeValue_38 (by decide) ?_
      refine t_vv E G hl (tp_blame l D K ad z o qq1 aqq1 (0 : Int32)) 7 (at_ro (i := 0) aqq1 (by decide) : ro qq1 = 7) (by decide) rfl rfl 1 rfl mw_code_X7_blame mw_ini_7 mw_ml_5_78 mw_inst_X7_blame mw_sel_X7_blame hd_X7_blame ⟨Nat.le_trans (by decide) hfr, Nat.le_trans (by decide) hlo⟩ rfl rfl rfl (Nat.le_of_ble_eq_true rfl) dX5_takeValue_39 (fun zz42 H locs hp44 G => ?_)
      obtain ⟨oo45, kk46⟩ := hp44
      have kk47 : KC z zz42 := KC.tr KC.rf (KT.c kk46)
      have h48 : tI zz42 0 5 = (tI z 0 5) := KF.i kk46 10 (rfl : ro 0 = 10) (by decide) rfl
      have h49 : tP zz42 5 0 = qq1 := KF.p kk46 eqq1.symm
      refine lv_goto (tgt := 110) E.1 E.2.1 dX5_takeValue_42 (by decide) ?_
      exact RET G ⟨oo45, kk47, h48⟩ dX5_takeValue_110
  · skip
    have b50 : iv 42 42 v2 := iv_eq c5 (iv_lit (lo := 42) (hi := 42) 42 (by decide) (by decide))
    refine lv_iconst (v := 1) E.1 E.2.1 dX5_takeValue_12 (by decide) ?_
    refine lv_goto (tgt := 17) E.1 E.2.1 dX5_takeValue_13 (by decide) ?_
    refine lv_istore_n (lv' := [(1, .int 1), (0, .ref (ad 5))]) E.1 E.2.1 dX5_takeValue_17 rfl hl (by decide) rfl (fun ls hl => ?_)
    refine lv_iload_n E.1 E.2.1 dX5_takeValue_18 rfl (lv_at hl 0 rfl) ?_
    refine lv_if_ne (tgt := 45) E.1 E.2.1 dX5_takeValue_19 (by decide) (fun _ => ?_) (fun h => absurd h (by decide))
    refine lv_iload_n E.1 E.2.1 dX5_takeValue_45 rfl (lv_at hl 0 rfl) ?_
    refine lv_if_eq (tgt := 70) E.1 E.2.1 dX5_takeValue_46 (by decide) (fun h => absurd h (by decide)) (fun _ => ?_)
    refine lv_aload_n E.1 E.2.1 dX5_takeValue_49 rfl (lv_at hl 1 rfl) ?_
    refine t_get E G 5 0 (rfl : ro 5 = 5) (C := RX5) (T := TX5) (N := 9) rfl (by decide) (by decide) (by decide) mw_fl_5_12 (fvl_d rfl) dX5_takeValue_50 ?_
    rw [eqq1.symm]
    refine t_get E G 7 4 (at_ro (i := 0) aqq1 (by decide) : ro qq1 = 7) (C := RX7) (T := TX7) (N := 7) rfl (by decide) (by decide) (by decide) mw_fl_5_88 (fvl_i rfl) dX5_takeValue_53 ?_
    refine lv_topi (fun v52 e53 => ?_)
    have b54 : iv (-1) 99999 v52 := by rw [e53]; exact o.i 7 4 (at_ro (i := 0) aqq1 (by decide) : ro qq1 = 7)
    refine lv_if_ge (tgt := 70) E.1 E.2.1 dX5_takeValue_56 (by decide) (fun c55 => ?_) (fun c55 => ?_)
    · skip
      have b56 : iv 0 99999 v52 := le_r c55 (iv_lit (lo := 0) (hi := 0) 0 (by decide) (by decide)) b54 (by decide)
      refine lv_aload_n E.1 E.2.1 dX5_takeValue_70 rfl (lv_at hl 1 rfl) ?_
      refine t_vv E G hl (rr_takePart l D K ad z o) 5 (rfl : ro 5 = 5) (by decide) rfl rfl 0 rfl mw_code_X5_takePart mw_ini_5 mw_ml_5_91 mw_inst_X5_takePart mw_sel_X5_takePart hd_X5_takePart ⟨Nat.le_trans (by decide) hfr, Nat.le_trans (by decide) hlo⟩ rfl rfl rfl (Nat.le_of_ble_eq_true rfl) dX5_takeValue_71 (fun zz57 H locs hp59 G => ?_)
      obtain ⟨oo60, kk61, h62⟩ := hp59
      have kk63 : KC z zz57 := KC.tr KC.rf kk61
      refine lv_aload_n E.1 E.2.1 dX5_takeValue_74 rfl (lv_at hl 1 rfl) ?_
      refine t_get E G 5 8 (rfl : ro 5 = 5) (C := RX5) (T := TX5) (N := 9) rfl (by decide) (by decide) (by decide) mw_fl_5_44 (fvl_d rfl) dX5_takeValue_75 ?_
      obtain ⟨qq64, eqq64⟩ : ∃ q : Nat, q = tP zz57 5 8 := ⟨_, rfl⟩
      have aqq64 : at_ 4 qq64 = true := by rw [eqq64]; exact oo60.p 5 8 (rfl : ro 5 = 5) (by decide)
      rw [← eqq64]
      refine lv_iload_n E.1 E.2.1 dX5_takeValue_78 rfl (lv_at hl 0 rfl) ?_
      refine lv_if_eq (tgt := 95) E.1 E.2.1 dX5_takeValue_79 (by decide) (fun h => absurd h (by decide)) (fun _ => ?_)
      refine lv_bipush (v := 64) E.1 E.2.1 dX5_takeValue_82 (by decide) ?_
      refine lv_aload_n E.1 E.2.1 dX5_takeValue_84 rfl (lv_at hl 1 rfl) ?_
      refine t_get E G 5 0 (rfl : ro 5 = 5) (C := RX5) (T := TX5) (N := 9) rfl (by decide) (by decide) (by decide) mw_fl_5_12 (fvl_d rfl) dX5_takeValue_85 ?_
      obtain ⟨qq65, eqq65⟩ : ∃ q : Nat, q = tP zz57 5 0 := ⟨_, rfl⟩
      have aqq65 : at_ 7 qq65 = true := by rw [eqq65]; exact oo60.p 5 0 (rfl : ro 5 = 5) (by decide)
      rw [← eqq65]
      refine t_get E G 7 4 (at_ro (i := 0) aqq65 (by decide) : ro qq65 = 7) (C := RX7) (T := TX7) (N := 7) rfl (by decide) (by decide) (by decide) mw_fl_5_88 (fvl_i rfl) dX5_takeValue_88 ?_
      refine lv_topi (fun v66 e67 => ?_)
      have b68 : iv (-1) 99999 v66 := by rw [e67]; exact oo60.i 7 4 (at_ro (i := 0) aqq65 (by decide) : ro qq65 = 7)
      refine lv_iadd E.1 E.2.1 dX5_takeValue_91 ?_
      refine lv_topi (fun v69 e70 => ?_)
      have b71 : iv 63 100063 v69 := by rw [e70]; exact iv_add (iv_lit (lo := 64) (hi := 64) 64 (by decide) (by decide)) b68 (by decide) (by decide) (by decide) (by decide)
      refine lv_goto (tgt := 102) E.1 E.2.1 dX5_takeValue_92 (by decide) ?_
      refine t_vv E G hl (r_write l D K ad zz57 oo60 qq64 aqq64 v69 (iv_mono b71 (by decide) (by decide))) 4 (at_ro (i := 0) aqq64 (by decide) : ro qq64 = 4) (by decide) rfl rfl 1 rfl mw_code_X4_write mw_ini_4 mw_ml_5_94 mw_inst_X4_write mw_sel_X4_write hd_X4_write ⟨Nat.le_trans (by decide) hfr, Nat.le_trans (by decide) hlo⟩ rfl rfl rfl (Nat.le_of_ble_eq_true rfl) dX5_takeValue_102 (fun zz72 H locs hp74 G => ?_)
      obtain ⟨oo75, kk76⟩ := hp74
      have kk77 : KC z zz72 := KC.tr kk63 (KW.c kk76)
      have h78 : tI zz72 0 5 = (tI z 0 5) := KF.i kk76 10 (rfl : ro 0 = 10) (by decide) (h62.trans rfl)
      have h79 : tI zz72 qq65 4 = v66 := KF.i kk76 7 (at_ro (i := 0) aqq65 (by decide) : ro qq65 = 7) (by decide) e67.symm
      have h80 : tP zz72 5 8 = qq64 := KF.p kk76 eqq64.symm
      have h81 : tP zz72 5 0 = qq65 := KF.p kk76 eqq65.symm
      refine lv_aload_n E.1 E.2.1 dX5_takeValue_105 rfl (lv_at hl 1 rfl) ?_
      refine lv_iconst (v := 3) E.1 E.2.1 dX5_takeValue_106 (by decide) ?_
      refine t_puti E G 5 6 (rfl : ro 5 = 5) (C := RX5) (T := TX5) (N := 9) rfl (by decide) (by decide) (by decide) rfl rfl mw_fl_5_35 rfl dX5_takeValue_107 (fun H locs G => ?_)
      obtain ⟨zz82, G, oo83, kk84, h85, h86, h87, h88, h89⟩ : ∃ u : TS, mG D A s H locs (wd K ad u) ∧ Ok u ∧ KC z u ∧ tI u 0 5 = (tI z 0 5) ∧ tI u qq65 4 = v66 ∧ tI u 5 6 = 3 ∧ tP u 5 8 = qq64 ∧ tP u 5 0 = qq65 := ⟨_, G, ok_i oo75 5 (rfl : ro 5 = 5) (iv_mono (iv_lit (lo := 3) (hi := 3) 3 (by decide) (by decide)) (by decide) (by decide)) (by decide), KC.tr kk77 (KC_i 5 (rfl : ro 5 = 5) (by decide)), (sI_k h78 (by decide)), (sI_k h79 (by decide)), sI_self, h80, h81⟩
      exact RET G ⟨oo83, kk84, h85⟩ dX5_takeValue_110
    · skip
      have b90 : iv (-1) (-1) v52 := lt_l (Int32.not_le.mp c55) b54 (iv_lit (lo := 0) (hi := 0) 0 (by decide) (by decide)) (by decide)
      refine lv_aload_n E.1 E.2.1 dX5_takeValue_59 rfl (lv_at hl 1 rfl) ?_
      refine t_get E G 5 0 (rfl : ro 5 = 5) (C := RX5) (T := TX5) (N := 9) rfl (by decide) (by decide) (by decide) mw_fl_5_12 (fvl_d rfl) dX5_takeValue_60 ?_
      rw [eqq1.symm]
      refine lv_iconst (v := 1) E.1 E.2.1 dX5_takeValue_63 (by decide) ?_
      refine t_vv E G hl (tp_blame l D K ad z o qq1 aqq1 (1 : Int32)) 7 (at_ro (i := 0) aqq1 (by decide) : ro qq1 = 7) (by decide) rfl rfl 1 rfl mw_code_X7_blame mw_ini_7 mw_ml_5_78 mw_inst_X7_blame mw_sel_X7_blame hd_X7_blame ⟨Nat.le_trans (by decide) hfr, Nat.le_trans (by decide) hlo⟩ rfl rfl rfl (Nat.le_of_ble_eq_true rfl) dX5_takeValue_64 (fun zz92 H locs hp94 G => ?_)
      obtain ⟨oo95, kk96⟩ := hp94
      have kk97 : KC z zz92 := KC.tr KC.rf (KT.c kk96)
      have h98 : tI zz92 0 5 = (tI z 0 5) := KF.i kk96 10 (rfl : ro 0 = 10) (by decide) rfl
      have h99 : tP zz92 5 0 = qq1 := KF.p kk96 eqq1.symm
      refine lv_goto (tgt := 110) E.1 E.2.1 dX5_takeValue_67 (by decide) ?_
      exact RET G ⟨oo95, kk97, h98⟩ dX5_takeValue_110
