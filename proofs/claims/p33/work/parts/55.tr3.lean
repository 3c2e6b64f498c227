theorem mw_code_X9_isTooMany : (Cond.code yX9_isTooMany cX9_isTooMany 3 (some .boolean) : Cond) ∈ cw := cw_of (List.mem_append_right _ (List.mem_append_right _ (List.mem_append_right _ (List.mem_append_left _ (List.mem_of_getElem? (i := 116) rfl))))) (by decide +kernel)
theorem mw_code_X9_leastOf : (Cond.code yX9_leastOf cX9_leastOf 2 (some .int) : Cond) ∈ cw := cw_of (List.mem_append_right _ (List.mem_append_right _ (List.mem_append_right _ (List.mem_append_left _ (List.mem_of_getElem? (i := 119) rfl))))) (by decide +kernel)
theorem mw_code_X9_mostOf : (Cond.code yX9_mostOf cX9_mostOf 3 (some .int) : Cond) ∈ cw := cw_of (List.mem_append_right _ (List.mem_append_right _ (List.mem_append_right _ (List.mem_append_left _ (List.mem_of_getElem? (i := 123) rfl))))) (by decide +kernel)
theorem mw_code_X9_readClauseEnd : (Cond.code yX9_readClauseEnd cX9_readClauseEnd 1 none : Cond) ∈ cw := cw_of (List.mem_append_right _ (List.mem_append_right _ (List.mem_append_right _ (List.mem_append_left _ (List.mem_of_getElem? (i := 151) rfl))))) (by decide +kernel)
theorem mw_code_X9_readNumber : (Cond.code yX9_readNumber cX9_readNumber 4 none : Cond) ∈ cw := cw_of (List.mem_append_right _ (List.mem_append_right _ (List.mem_append_right _ (List.mem_append_left _ (List.mem_of_getElem? (i := 127) rfl))))) (by decide +kernel)
theorem mw_code_X9_tellTown : (Cond.code yX9_tellTown cX9_tellTown 2 none : Cond) ∈ cw := cw_of (List.mem_append_right _ (List.mem_append_right _ (List.mem_append_right _ (List.mem_append_left _ (List.mem_of_getElem? (i := 131) rfl))))) (by decide +kernel)
theorem mw_fl_9_39 : (Cond.fieldLink RX9 39 "LureTown$Tape" "fault" "I" : Cond) ∈ cw := cw_of (List.mem_append_right _ (List.mem_append_left _ (List.mem_of_getElem? (i := 39) (by decide +kernel)))) (by decide +kernel)
theorem mw_ini_9 : (Cond.initialized RX9 : Cond) ∈ cw := cw_of (List.mem_append_right _ (List.mem_append_left _ (List.mem_of_getElem? (i := 3) (by decide +kernel)))) (by decide +kernel)
theorem mw_inst_X9_isTooMany : (Cond.instanceMethod yX9_isTooMany : Cond) ∈ cw := cw_of (List.mem_append_right _ (List.mem_append_right _ (List.mem_append_right _ (List.mem_append_left _ (List.mem_of_getElem? (i := 115) (by decide +kernel)))))) (by decide +kernel)
theorem mw_inst_X9_mostOf : (Cond.instanceMethod yX9_mostOf : Cond) ∈ cw := cw_of (List.mem_append_right _ (List.mem_append_right _ (List.mem_append_right _ (List.mem_append_left _ (List.mem_of_getElem? (i := 122) (by decide +kernel)))))) (by decide +kernel)
theorem mw_inst_X9_readClauseEnd : (Cond.instanceMethod yX9_readClauseEnd : Cond) ∈ cw := cw_of (List.mem_append_right _ (List.mem_append_right _ (List.mem_append_right _ (List.mem_append_left _ (List.mem_of_getElem? (i := 150) (by decide +kernel)))))) (by decide +kernel)
theorem mw_inst_X9_readNumber : (Cond.instanceMethod yX9_readNumber : Cond) ∈ cw := cw_of (List.mem_append_right _ (List.mem_append_right _ (List.mem_append_right _ (List.mem_append_left _ (List.mem_of_getElem? (i := 126) (by decide +kernel)))))) (by decide +kernel)
theorem mw_inst_X9_tellTown : (Cond.instanceMethod yX9_tellTown : Cond) ∈ cw := cw_of (List.mem_append_right _ (List.mem_append_right _ (List.mem_append_right _ (List.mem_append_left _ (List.mem_of_getElem? (i := 130) (by decide +kernel)))))) (by decide +kernel)
theorem mw_ml_9_55 : (Cond.methodLink RX9 55 yX9_isTooMany : Cond) ∈ cw := cw_of (List.mem_append_right _ (List.mem_append_right _ (List.mem_append_right _ (List.mem_append_left _ (List.mem_of_getElem? (i := 113) (by decide +kernel)))))) (by decide +kernel)
theorem mw_ml_9_59 : (Cond.methodLink RX9 59 yX9_leastOf : Cond) ∈ cw := cw_of (List.mem_append_right _ (List.mem_append_right _ (List.mem_append_right _ (List.mem_append_left _ (List.mem_of_getElem? (i := 117) (by decide +kernel)))))) (by decide +kernel)
theorem mw_ml_9_63 : (Cond.methodLink RX9 63 yX9_mostOf : Cond) ∈ cw := cw_of (List.mem_append_right _ (List.mem_append_right _ (List.mem_append_right _ (List.mem_append_left _ (List.mem_of_getElem? (i := 120) (by decide +kernel)))))) (by decide +kernel)
theorem mw_ml_9_66 : (Cond.methodLink RX9 66 yX9_readNumber : Cond) ∈ cw := cw_of (List.mem_append_right _ (List.mem_append_right _ (List.mem_append_right _ (List.mem_append_left _ (List.mem_of_getElem? (i := 124) (by decide +kernel)))))) (by decide +kernel)
theorem mw_ml_9_70 : (Cond.methodLink RX9 70 yX9_tellTown : Cond) ∈ cw := cw_of (List.mem_append_right _ (List.mem_append_right _ (List.mem_append_right _ (List.mem_append_left _ (List.mem_of_getElem? (i := 128) (by decide +kernel)))))) (by decide +kernel)
theorem mw_ml_9_73 : (Cond.methodLink RX9 73 yX9_readClauseEnd : Cond) ∈ cw := cw_of (List.mem_append_right _ (List.mem_append_right _ (List.mem_append_right _ (List.mem_append_left _ (List.mem_of_getElem? (i := 148) (by decide +kernel)))))) (by decide +kernel)
theorem mw_sel_X9_isTooMany : (Cond.selects RX9 yX9_isTooMany yX9_isTooMany : Cond) ∈ cw := cw_of (List.mem_append_left _ (List.mem_of_getElem? (i := 7) (by decide +kernel))) (by decide +kernel)
theorem mw_sel_X9_mostOf : (Cond.selects RX9 yX9_mostOf yX9_mostOf : Cond) ∈ cw := cw_of (List.mem_append_left _ (List.mem_of_getElem? (i := 8) (by decide +kernel))) (by decide +kernel)
theorem mw_sel_X9_readClauseEnd : (Cond.selects RX9 yX9_readClauseEnd yX9_readClauseEnd : Cond) ∈ cw := cw_of (List.mem_append_left _ (List.mem_of_getElem? (i := 11) (by decide +kernel))) (by decide +kernel)
theorem mw_sel_X9_readNumber : (Cond.selects RX9 yX9_readNumber yX9_readNumber : Cond) ∈ cw := cw_of (List.mem_append_left _ (List.mem_of_getElem? (i := 9) (by decide +kernel))) (by decide +kernel)
theorem mw_sel_X9_tellTown : (Cond.selects RX9 yX9_tellTown yX9_tellTown : Cond) ∈ cw := cw_of (List.mem_append_left _ (List.mem_of_getElem? (i := 10) (by decide +kernel))) (by decide +kernel)
theorem mw_stat_X9_leastOf : (Cond.static yX9_leastOf : Cond) ∈ cw := cw_of (List.mem_append_right _ (List.mem_append_right _ (List.mem_append_right _ (List.mem_append_left _ (List.mem_of_getElem? (i := 118) (by decide +kernel)))))) (by decide +kernel)
theorem dX9_readClause_0 : decode cX9_readClause 0 = .ok (.aload_n 0, 1) := by decide +kernel
theorem dX9_readClause_1 : decode cX9_readClause 1 = .ok (.getfield 12, 3) := by decide +kernel
theorem dX9_readClause_4 : decode cX9_readClause 4 = .ok (.invokevirtual 49, 3) := by decide +kernel
theorem dX9_readClause_7 : decode cX9_readClause 7 = .ok (.aload_n 0, 1) := by decide +kernel
theorem dX9_readClause_8 : decode cX9_readClause 8 = .ok (.getfield 12, 3) := by decide +kernel
theorem dX9_readClause_11 : decode cX9_readClause 11 = .ok (.getfield 43, 3) := by decide +kernel
theorem dX9_readClause_14 : decode cX9_readClause 14 = .ok (.istore_n 2, 1) := by decide +kernel
theorem dX9_readClause_15 : decode cX9_readClause 15 = .ok (.iload_n 2, 1) := by decide +kernel
theorem dX9_readClause_16 : decode cX9_readClause 16 = .ok (.bipush 16, 2) := by decide +kernel
theorem dX9_readClause_18 : decode cX9_readClause 18 = .ok (.if_icmp .eq 28, 3) := by decide +kernel
theorem dX9_readClause_21 : decode cX9_readClause 21 = .ok (.iload_n 2, 1) := by decide +kernel
theorem dX9_readClause_22 : decode cX9_readClause 22 = .ok (.bipush 17, 2) := by decide +kernel
theorem dX9_readClause_24 : decode cX9_readClause 24 = .ok (.if_icmp .eq 22, 3) := by decide +kernel
theorem dX9_readClause_27 : decode cX9_readClause 27 = .ok (.iload_n 2, 1) := by decide +kernel
theorem dX9_readClause_28 : decode cX9_readClause 28 = .ok (.bipush 18, 2) := by decide +kernel
theorem dX9_readClause_30 : decode cX9_readClause 30 = .ok (.if_icmp .eq 16, 3) := by decide +kernel
theorem dX9_readClause_33 : decode cX9_readClause 33 = .ok (.iload_n 2, 1) := by decide +kernel
theorem dX9_readClause_34 : decode cX9_readClause 34 = .ok (.ifCond .eq 12, 3) := by decide +kernel
theorem dX9_readClause_37 : decode cX9_readClause 37 = .ok (.aload_n 0, 1) := by decide +kernel
theorem dX9_readClause_38 : decode cX9_readClause 38 = .ok (.getfield 12, 3) := by decide +kernel
theorem dX9_readClause_41 : decode cX9_readClause 41 = .ok (.iconst 0, 1) := by decide +kernel
theorem dX9_readClause_42 : decode cX9_readClause 42 = .ok (.invokevirtual 52, 3) := by decide +kernel
theorem dX9_readClause_45 : decode cX9_readClause 45 = .ok (.return_, 1) := by decide +kernel
theorem dX9_readClause_46 : decode cX9_readClause 46 = .ok (.aload_n 0, 1) := by decide +kernel
theorem dX9_readClause_47 : decode cX9_readClause 47 = .ok (.iload_n 2, 1) := by decide +kernel
theorem dX9_readClause_48 : decode cX9_readClause 48 = .ok (.iload_n 1, 1) := by decide +kernel
theorem dX9_readClause_49 : decode cX9_readClause 49 = .ok (.invokevirtual 55, 3) := by decide +kernel
theorem dX9_readClause_52 : decode cX9_readClause 52 = .ok (.ifCond .eq 12, 3) := by decide +kernel
theorem dX9_readClause_55 : decode cX9_readClause 55 = .ok (.aload_n 0, 1) := by decide +kernel
theorem dX9_readClause_56 : decode cX9_readClause 56 = .ok (.getfield 12, 3) := by decide +kernel
theorem dX9_readClause_59 : decode cX9_readClause 59 = .ok (.iconst 4, 1) := by decide +kernel
theorem dX9_readClause_60 : decode cX9_readClause 60 = .ok (.invokevirtual 52, 3) := by decide +kernel
theorem dX9_readClause_63 : decode cX9_readClause 63 = .ok (.return_, 1) := by decide +kernel
theorem dX9_readClause_64 : decode cX9_readClause 64 = .ok (.iload_n 2, 1) := by decide +kernel
theorem dX9_readClause_65 : decode cX9_readClause 65 = .ok (.bipush 16, 2) := by decide +kernel
theorem dX9_readClause_67 : decode cX9_readClause 67 = .ok (.if_icmp .ne 7, 3) := by decide +kernel
theorem dX9_readClause_70 : decode cX9_readClause 70 = .ok (.iconst 1, 1) := by decide +kernel
theorem dX9_readClause_71 : decode cX9_readClause 71 = .ok (.goto 14, 3) := by decide +kernel
theorem dX9_readClause_74 : decode cX9_readClause 74 = .ok (.iload_n 2, 1) := by decide +kernel
theorem dX9_readClause_75 : decode cX9_readClause 75 = .ok (.bipush 17, 2) := by decide +kernel
theorem dX9_readClause_77 : decode cX9_readClause 77 = .ok (.if_icmp .ne 7, 3) := by decide +kernel
theorem dX9_readClause_80 : decode cX9_readClause 80 = .ok (.iconst 2, 1) := by decide +kernel
theorem dX9_readClause_81 : decode cX9_readClause 81 = .ok (.goto 4, 3) := by decide +kernel
theorem dX9_readClause_84 : decode cX9_readClause 84 = .ok (.iconst 4, 1) := by decide +kernel
theorem dX9_readClause_85 : decode cX9_readClause 85 = .ok (.istore_n 3, 1) := by decide +kernel
theorem dX9_readClause_86 : decode cX9_readClause 86 = .ok (.iconst 0, 1) := by decide +kernel
theorem dX9_readClause_87 : decode cX9_readClause 87 = .ok (.istore 4, 2) := by decide +kernel
theorem dX9_readClause_89 : decode cX9_readClause 89 = .ok (.iload 4, 2) := by decide +kernel
theorem dX9_readClause_91 : decode cX9_readClause 91 = .ok (.iload_n 3, 1) := by decide +kernel
theorem dX9_readClause_92 : decode cX9_readClause 92 = .ok (.if_icmp .ge 38, 3) := by decide +kernel
theorem dX9_readClause_95 : decode cX9_readClause 95 = .ok (.aload_n 0, 1) := by decide +kernel
theorem dX9_readClause_96 : decode cX9_readClause 96 = .ok (.getfield 12, 3) := by decide +kernel
theorem dX9_readClause_99 : decode cX9_readClause 99 = .ok (.getfield 39, 3) := by decide +kernel
theorem dX9_readClause_102 : decode cX9_readClause 102 = .ok (.ifCond .ne 28, 3) := by decide +kernel
theorem dX9_readClause_105 : decode cX9_readClause 105 = .ok (.aload_n 0, 1) := by decide +kernel
theorem dX9_readClause_106 : decode cX9_readClause 106 = .ok (.iload 4, 2) := by decide +kernel
theorem dX9_readClause_108 : decode cX9_readClause 108 = .ok (.iload_n 2, 1) := by decide +kernel
theorem dX9_readClause_109 : decode cX9_readClause 109 = .ok (.iload 4, 2) := by decide +kernel
theorem dX9_readClause_111 : decode cX9_readClause 111 = .ok (.invokestatic 59, 3) := by decide +kernel
theorem dX9_readClause_114 : decode cX9_readClause 114 = .ok (.aload_n 0, 1) := by decide +kernel
theorem dX9_readClause_115 : decode cX9_readClause 115 = .ok (.iload_n 2, 1) := by decide +kernel
theorem dX9_readClause_116 : decode cX9_readClause 116 = .ok (.iload 4, 2) := by decide +kernel
theorem dX9_readClause_118 : decode cX9_readClause 118 = .ok (.invokevirtual 63, 3) := by decide +kernel
theorem dX9_readClause_121 : decode cX9_readClause 121 = .ok (.invokevirtual 66, 3) := by decide +kernel
theorem dX9_readClause_124 : decode cX9_readClause 124 = .ok (.iinc 4 1, 3) := by decide +kernel
theorem dX9_readClause_127 : decode cX9_readClause 127 = .ok (.goto (-38), 3) := by decide +kernel
theorem dX9_readClause_130 : decode cX9_readClause 130 = .ok (.iload_n 2, 1) := by decide +kernel
theorem dX9_readClause_131 : decode cX9_readClause 131 = .ok (.bipush 17, 2) := by decide +kernel
theorem dX9_readClause_133 : decode cX9_readClause 133 = .ok (.if_icmp .ne 26, 3) := by decide +kernel
theorem dX9_readClause_136 : decode cX9_readClause 136 = .ok (.aload_n 0, 1) := by decide +kernel
theorem dX9_readClause_137 : decode cX9_readClause 137 = .ok (.getfield 25, 3) := by decide +kernel
theorem dX9_readClause_140 : decode cX9_readClause 140 = .ok (.iconst 0, 1) := by decide +kernel
theorem dX9_readClause_141 : decode cX9_readClause 141 = .ok (.iaload, 1) := by decide +kernel
theorem dX9_readClause_142 : decode cX9_readClause 142 = .ok (.aload_n 0, 1) := by decide +kernel
theorem dX9_readClause_143 : decode cX9_readClause 143 = .ok (.getfield 25, 3) := by decide +kernel
theorem dX9_readClause_146 : decode cX9_readClause 146 = .ok (.iconst 1, 1) := by decide +kernel
theorem dX9_readClause_147 : decode cX9_readClause 147 = .ok (.iaload, 1) := by decide +kernel
theorem dX9_readClause_148 : decode cX9_readClause 148 = .ok (.if_icmp .ne 11, 3) := by decide +kernel
theorem dX9_readClause_151 : decode cX9_readClause 151 = .ok (.aload_n 0, 1) := by decide +kernel
theorem dX9_readClause_152 : decode cX9_readClause 152 = .ok (.getfield 12, 3) := by decide +kernel
theorem dX9_readClause_155 : decode cX9_readClause 155 = .ok (.iconst 1, 1) := by decide +kernel
theorem dX9_readClause_156 : decode cX9_readClause 156 = .ok (.invokevirtual 52, 3) := by decide +kernel
theorem dX9_readClause_159 : decode cX9_readClause 159 = .ok (.aload_n 0, 1) := by decide +kernel
theorem dX9_readClause_160 : decode cX9_readClause 160 = .ok (.getfield 12, 3) := by decide +kernel
theorem dX9_readClause_163 : decode cX9_readClause 163 = .ok (.getfield 39, 3) := by decide +kernel
theorem dX9_readClause_166 : decode cX9_readClause 166 = .ok (.ifCond .ne 12, 3) := by decide +kernel
theorem dX9_readClause_169 : decode cX9_readClause 169 = .ok (.aload_n 0, 1) := by decide +kernel
theorem dX9_readClause_170 : decode cX9_readClause 170 = .ok (.iload_n 2, 1) := by decide +kernel
theorem dX9_readClause_171 : decode cX9_readClause 171 = .ok (.invokevirtual 70, 3) := by decide +kernel
theorem dX9_readClause_174 : decode cX9_readClause 174 = .ok (.aload_n 0, 1) := by decide +kernel
theorem dX9_readClause_175 : decode cX9_readClause 175 = .ok (.invokevirtual 73, 3) := by decide +kernel
theorem dX9_readClause_178 : decode cX9_readClause 178 = .ok (.return_, 1) := by decide +kernel
theorem hd_X9_isTooMany : yX9_isTooMany.cls ≠ "java/lang/invoke/MethodHandle" ∧ yX9_isTooMany.cls ≠ "java/lang/invoke/VarHandle" ∧ (parseMethodDescriptor yX9_isTooMany.desc).map (fun d => d.parameters.length) = some 2 := ⟨by decide +kernel, by decide +kernel, by decide +kernel⟩
theorem hd_X9_leastOf : yX9_leastOf.cls ≠ "java/lang/invoke/MethodHandle" ∧ yX9_leastOf.cls ≠ "java/lang/invoke/VarHandle" ∧ (parseMethodDescriptor yX9_leastOf.desc).map (fun d => d.parameters.length) = some 2 := ⟨by decide +kernel, by decide +kernel, by decide +kernel⟩
theorem hd_X9_mostOf : yX9_mostOf.cls ≠ "java/lang/invoke/MethodHandle" ∧ yX9_mostOf.cls ≠ "java/lang/invoke/VarHandle" ∧ (parseMethodDescriptor yX9_mostOf.desc).map (fun d => d.parameters.length) = some 2 := ⟨by decide +kernel, by decide +kernel, by decide +kernel⟩
theorem hd_X9_readClauseEnd : yX9_readClauseEnd.cls ≠ "java/lang/invoke/MethodHandle" ∧ yX9_readClauseEnd.cls ≠ "java/lang/invoke/VarHandle" ∧ (parseMethodDescriptor yX9_readClauseEnd.desc).map (fun d => d.parameters.length) = some 0 := ⟨by decide +kernel, by decide +kernel, by decide +kernel⟩
theorem hd_X9_readNumber : yX9_readNumber.cls ≠ "java/lang/invoke/MethodHandle" ∧ yX9_readNumber.cls ≠ "java/lang/invoke/VarHandle" ∧ (parseMethodDescriptor yX9_readNumber.desc).map (fun d => d.parameters.length) = some 3 := ⟨by decide +kernel, by decide +kernel, by decide +kernel⟩
theorem hd_X9_tellTown : yX9_tellTown.cls ≠ "java/lang/invoke/MethodHandle" ∧ yX9_tellTown.cls ≠ "java/lang/invoke/VarHandle" ∧ (parseMethodDescriptor yX9_tellTown.desc).map (fun d => d.parameters.length) = some 1 := ⟨by decide +kernel, by decide +kernel, by decide +kernel⟩
set_option maxHeartbeats 4000000 in
set_option maxRecDepth 100000 in
theorem tr_clause (l : Launch) (D : va_G) (K : Nat → ClassId) (ad : Nat → Nat) (z : TS) (o : Ok z) (x1 : Int32) (bx1 : iv 0 40 x1) : cV l yX9_readClause cX9_readClause 5 ({ frames := 8, cells := 0, slots := 0, locals := 173 }) D K ad z [.ref (ad 3), .int x1] (fun u => Ok u ∧ KC z u) := by
  refine t_enterV (by decide) (Nat.le_of_ble_eq_true rfl) rfl rfl ?_
  intro p e s m args below meth c A R Q H locs ls E hfr hlo RET G hl
  have E : mE p s m meth c cX9_readClause args 5 RX9 D K A := E
  have hl : lv_has ls 5 [(0, .ref (ad 3)), (1, .int x1)] := hl
  refine lv_aload_n E.1 E.2.1 dX9_readClause_0 rfl (lv_at hl 0 rfl) ?_
  refine t_get E G 9 0 (rfl : ro 3 = 9) (C := RX9) (T := TX9) (N := 3) rfl (by decide) (by decide) (by decide) mw_fl_9_12 (fvl_d rfl) dX9_readClause_1 ?_
  obtain ⟨qq1, eqq1⟩ : ∃ q : Nat, q = tP z 3 0 := ⟨_, rfl⟩
  have aqq1 : at_ 7 qq1 = true := by rw [eqq1]; exact o.p 9 0 (rfl : ro 3 = 9) (by decide)
  rw [← eqq1]
  refine t_vv E G hl (tp_readToken l D K ad z o qq1 aqq1) 7 (at_ro (i := 0) aqq1 (by decide) : ro qq1 = 7) (by decide) rfl rfl 0 rfl mw_code_X7_readToken mw_ini_7 mw_ml_9_49 mw_inst_X7_readToken mw_sel_X7_readToken hd_X7_readToken ⟨Nat.le_trans (by decide) hfr, Nat.le_trans (by decide) hlo⟩ rfl rfl rfl (Nat.le_of_ble_eq_true rfl) dX9_readClause_4 (fun zz2 H locs hp4 G => ?_)
  obtain ⟨oo5, kk6⟩ := hp4
  have kk7 : KC z zz2 := KC.tr KC.rf (KT.c kk6)
  have h8 : tP zz2 3 0 = qq1 := KF.p kk6 eqq1.symm
  refine lv_aload_n E.1 E.2.1 dX9_readClause_7 rfl (lv_at hl 0 rfl) ?_
  refine t_get E G 9 0 (rfl : ro 3 = 9) (C := RX9) (T := TX9) (N := 3) rfl (by decide) (by decide) (by decide) mw_fl_9_12 (fvl_d rfl) dX9_readClause_8 ?_
  rw [h8]
  refine t_get E G 7 3 (at_ro (i := 0) aqq1 (by decide) : ro qq1 = 7) (C := RX7) (T := TX7) (N := 7) rfl (by decide) (by decide) (by decide) mw_fl_9_43 (fvl_i rfl) dX9_readClause_11 ?_
  refine lv_topi (fun v10 e11 => ?_)
  have b12 : iv 0 42 v10 := by rw [e11]; exact oo5.i 7 3 (at_ro (i := 0) aqq1 (by decide) : ro qq1 = 7)
  refine lv_istore_n (lv' := [(2, .int v10), (0, .ref (ad 3)), (1, .int x1)]) E.1 E.2.1 dX9_readClause_14 rfl hl (by decide) rfl (fun ls hl => ?_)
  refine lv_iload_n E.1 E.2.1 dX9_readClause_15 rfl (lv_at hl 0 rfl) ?_
  refine lv_bipush (v := 16) E.1 E.2.1 dX9_readClause_16 (by decide) ?_
  refine lv_icmp_eq (tgt := 46) E.1 E.2.1 dX9_readClause_18 (by decide) (fun c13 => ?_) (fun c13 => ?_)
  · skip
    subst c13
    refine lv_aload_n E.1 E.2.1 dX9_readClause_46 rfl (lv_at hl 1 rfl) ?_
    refine lv_iload_n E.1 E.2.1 dX9_readClause_47 rfl (lv_at hl 0 rfl) ?_
    refine lv_iload_n E.1 E.2.1 dX9_readClause_48 rfl (lv_at hl 2 rfl) ?_
    refine t_vi E G hl (tr_many_16 l D K ad zz2 oo5 x1 (iv_mono bx1 (by decide) (by decide))) 9 (rfl : ro 3 = 9) (by decide) rfl rfl 2 rfl mw_code_X9_isTooMany mw_ini_9 mw_ml_9_55 mw_inst_X9_isTooMany mw_sel_X9_isTooMany hd_X9_isTooMany ⟨Nat.le_trans (by decide) hfr, Nat.le_trans (by decide) hlo⟩ rfl rfl rfl (Nat.le_of_ble_eq_true rfl) dX9_readClause_49 (fun r15 zz14 H locs hp16 G => ?_)
    obtain ⟨hz18, b17⟩ := hp16
    rw [hz18] at G
    refine lv_if_eq (tgt := 64) E.1 E.2.1 dX9_readClause_52 (by decide) (fun c19 => ?_) (fun c19 => ?_)
    · skip
      have b20 : iv 0 0 r15 := iv_eq c19 (iv_lit (lo := 0) (hi := 0) 0 (by decide) (by decide))
      refine lv_iload_n E.1 E.2.1 dX9_readClause_64 rfl (lv_at hl 0 rfl) ?_
      refine lv_bipush (v := 16) E.1 E.2.1 dX9_readClause_65 (by decide) ?_
      refine lv_icmp_ne (tgt := 74) E.1 E.2.1 dX9_readClause_67 (by decide) (fun h => absurd (by decide) h) (fun _ => ?_)
      refine lv_iconst (v := 1) E.1 E.2.1 dX9_readClause_70 (by decide) ?_
      refine lv_goto (tgt := 85) E.1 E.2.1 dX9_readClause_71 (by decide) ?_
      refine lv_istore_n (lv' := [(3, .int 1), (2, .int 16), (0, .ref (ad 3)), (1, .int x1)]) E.1 E.2.1 dX9_readClause_85 rfl hl (by decide) rfl (fun ls hl => ?_)
      refine lv_iconst (v := 0) E.1 E.2.1 dX9_readClause_86 (by decide) ?_
      refine lv_istore (lv' := [(4, .int 0), (3, .int 1), (2, .int 16), (0, .ref (ad 3)), (1, .int x1)]) E.1 E.2.1 dX9_readClause_87 hl (by decide) rfl (fun ls hl => ?_)
      refine lv_iload E.1 E.2.1 dX9_readClause_89 (lv_at hl 0 rfl) ?_
      refine lv_iload_n E.1 E.2.1 dX9_readClause_91 rfl (lv_at hl 1 rfl) ?_
      refine lv_icmp_ge (tgt := 130) E.1 E.2.1 dX9_readClause_92 (by decide) (fun h => absurd h (by decide)) (fun _ => ?_)
      refine lv_aload_n E.1 E.2.1 dX9_readClause_95 rfl (lv_at hl 3 rfl) ?_
      refine t_get E G 9 0 (rfl : ro 3 = 9) (C := RX9) (T := TX9) (N := 3) rfl (by decide) (by decide) (by decide) mw_fl_9_12 (fvl_d rfl) dX9_readClause_96 ?_
      rw [h8]
      refine t_get E G 7 2 (at_ro (i := 0) aqq1 (by decide) : ro qq1 = 7) (C := RX7) (T := TX7) (N := 7) rfl (by decide) (by decide) (by decide) mw_fl_9_39 (fvl_i rfl) dX9_readClause_99 ?_
      refine lv_topi (fun v22 e23 => ?_)
      refine lv_if_ne (tgt := 130) E.1 E.2.1 dX9_readClause_102 (by decide) (fun c24 => ?_) (fun c24 => ?_)
      · skip
        refine lv_iload_n E.1 E.2.1 dX9_readClause_130 rfl (lv_at hl 2 rfl) ?_
        refine lv_bipush (v := 17) E.1 E.2.1 dX9_readClause_131 (by decide) ?_
        refine lv_icmp_ne (tgt := 159) E.1 E.2.1 dX9_readClause_133 (by decide) (fun _ => ?_) (fun h => absurd h (by decide))
        refine lv_aload_n E.1 E.2.1 dX9_readClause_159 rfl (lv_at hl 3 rfl) ?_
        refine t_get E G 9 0 (rfl : ro 3 = 9) (C := RX9) (T := TX9) (N := 3) rfl (by decide) (by decide) (by decide) mw_fl_9_12 (fvl_d rfl) dX9_readClause_160 ?_
        rw [h8]
        refine t_get E G 7 2 (at_ro (i := 0) aqq1 (by decide) : ro qq1 = 7) (C := RX7) (T := TX7) (N := 7) rfl (by decide) (by decide) (by decide) mw_fl_9_39 (fvl_i rfl) dX9_readClause_163 ?_
        refine m_ci v22 e23.symm ?_
        refine lv_if_ne (tgt := 178) E.1 E.2.1 dX9_readClause_166 (by decide) (fun _ => ?_) (fun h => absurd h c24)
        exact RET G ⟨oo5, kk7⟩ dX9_readClause_178
      · skip
        have b26 : iv 0 0 v22 := iv_eq c24 (iv_lit (lo := 0) (hi := 0) 0 (by decide) (by decide))
        refine lv_aload_n E.1 E.2.1 dX9_readClause_105 rfl (lv_at hl 3 rfl) ?_
        refine lv_iload E.1 E.2.1 dX9_readClause_106 (lv_at hl 0 rfl) ?_
        refine lv_iload_n E.1 E.2.1 dX9_readClause_108 rfl (lv_at hl 2 rfl) ?_
        refine lv_iload E.1 E.2.1 dX9_readClause_109 (lv_at hl 0 rfl) ?_
        refine t_si E G hl (tr_least_16_0 l D K ad zz2 oo5) 2 rfl mw_code_X9_leastOf mw_ini_9 mw_ml_9_59 mw_stat_X9_leastOf hd_X9_leastOf ⟨Nat.le_trans (by decide) hfr, Nat.le_trans (by decide) hlo⟩ rfl rfl rfl (Nat.le_of_ble_eq_true rfl) dX9_readClause_111 (fun r28 zz27 H locs hp29 G => ?_)
        obtain ⟨hz31, b30⟩ := hp29
        rw [hz31] at G
        refine lv_aload_n E.1 E.2.1 dX9_readClause_114 rfl (lv_at hl 3 rfl) ?_
        refine lv_iload_n E.1 E.2.1 dX9_readClause_115 rfl (lv_at hl 2 rfl) ?_
        refine lv_iload E.1 E.2.1 dX9_readClause_116 (lv_at hl 0 rfl) ?_
        refine t_vi E G hl (tr_most_16_0 l D K ad zz2 oo5) 9 (rfl : ro 3 = 9) (by decide) rfl rfl 2 rfl mw_code_X9_mostOf mw_ini_9 mw_ml_9_63 mw_inst_X9_mostOf mw_sel_X9_mostOf hd_X9_mostOf ⟨Nat.le_trans (by decide) hfr, Nat.le_trans (by decide) hlo⟩ rfl rfl rfl (Nat.le_of_ble_eq_true rfl) dX9_readClause_118 (fun r33 zz32 H locs hp34 G => ?_)
        obtain ⟨hz36, b35⟩ := hp34
        rw [hz36] at G
        refine t_vv E G hl (tr_num_0 l D K ad zz2 oo5 r28 (iv_mono b30 (by decide) (by decide)) r33 (iv_mono b35 (by decide) (by decide))) 9 (rfl : ro 3 = 9) (by decide) rfl rfl 3 rfl mw_code_X9_readNumber mw_ini_9 mw_ml_9_66 mw_inst_X9_readNumber mw_sel_X9_readNumber hd_X9_readNumber ⟨Nat.le_trans (by decide) hfr, Nat.le_trans (by decide) hlo⟩ rfl rfl rfl (Nat.le_of_ble_eq_true rfl) dX9_readClause_121 (fun zz37 H locs hp39 G => ?_)
        obtain ⟨oo40, kk41, h42, h43⟩ := hp39
        have kk44 : KC z zz37 := KC.tr kk7 (KN.c kk41)
        have h45 : tP zz37 3 0 = qq1 := KF.p kk41 h8
        have F46 := h43
        rw [← kk41.2.2.2, h45] at F46
        refine lv_iinc (v := 1) (lv' := [(4, .int 1), (3, .int 1), (2, .int 16), (0, .ref (ad 3)), (1, .int x1)]) E.1 E.2.1 dX9_readClause_124 hl (k := 0) rfl (by decide) (by decide) rfl (fun ls hl => ?_)
        refine lv_goto (tgt := 89) E.1 E.2.1 dX9_readClause_127 (by decide) ?_
        refine lv_iload E.1 E.2.1 dX9_readClause_89 (lv_at hl 0 rfl) ?_
        refine lv_iload_n E.1 E.2.1 dX9_readClause_91 rfl (lv_at hl 1 rfl) ?_
        refine lv_icmp_ge (tgt := 130) E.1 E.2.1 dX9_readClause_92 (by decide) (fun _ => ?_) (fun h => absurd (by decide) h)
        refine lv_iload_n E.1 E.2.1 dX9_readClause_130 rfl (lv_at hl 2 rfl) ?_
        refine lv_bipush (v := 17) E.1 E.2.1 dX9_readClause_131 (by decide) ?_
        refine lv_icmp_ne (tgt := 159) E.1 E.2.1 dX9_readClause_133 (by decide) (fun _ => ?_) (fun h => absurd h (by decide))
        refine lv_aload_n E.1 E.2.1 dX9_readClause_159 rfl (lv_at hl 3 rfl) ?_
        refine t_get E G 9 0 (rfl : ro 3 = 9) (C := RX9) (T := TX9) (N := 3) rfl (by decide) (by decide) (by decide) mw_fl_9_12 (fvl_d rfl) dX9_readClause_160 ?_
        rw [h45]
        refine t_get E G 7 2 (at_ro (i := 0) aqq1 (by decide) : ro qq1 = 7) (C := RX7) (T := TX7) (N := 7) rfl (by decide) (by decide) (by decide) mw_fl_9_39 (fvl_i rfl) dX9_readClause_163 ?_
        refine lv_topi (fun v48 e49 => ?_)
        refine lv_if_ne (tgt := 178) E.1 E.2.1 dX9_readClause_166 (by decide) (fun c50 => ?_) (fun c50 => ?_)
        · skip
          exact RET G ⟨oo40, kk44⟩ dX9_readClause_178
        · skip
          have b51 : iv 0 0 v48 := iv_eq c50 (iv_lit (lo := 0) (hi := 0) 0 (by decide) (by decide))
          have h52 : iv 2 8 (tA zz37 4 0) := f2_iv F46 b30 b35 e49.symm c50
          refine lv_aload_n E.1 E.2.1 dX9_readClause_169 rfl (lv_at hl 3 rfl) ?_
          refine lv_iload_n E.1 E.2.1 dX9_readClause_170 rfl (lv_at hl 2 rfl) ?_
          refine t_vv E G hl (tr_tell_16 l D K ad zz37 oo40 (iv_mono h52 (by decide) (by decide))) 9 (rfl : ro 3 = 9) (by decide) rfl rfl 1 rfl mw_code_X9_tellTown mw_ini_9 mw_ml_9_70 mw_inst_X9_tellTown mw_sel_X9_tellTown hd_X9_tellTown ⟨Nat.le_trans (by decide) hfr, Nat.le_trans (by decide) hlo⟩ rfl rfl rfl (Nat.le_of_ble_eq_true rfl) dX9_readClause_171 (fun zz53 H locs hp55 G => ?_)
          obtain ⟨oo56, kk57⟩ := hp55
          have kk58 : KC z zz53 := KC.tr kk44 kk57
          refine lv_aload_n E.1 E.2.1 dX9_readClause_174 rfl (lv_at hl 3 rfl) ?_
          refine t_vv E G hl (tr_clauseEnd l D K ad zz53 oo56) 9 (rfl : ro 3 = 9) (by decide) rfl rfl 0 rfl mw_code_X9_readClauseEnd mw_ini_9 mw_ml_9_73 mw_inst_X9_readClauseEnd mw_sel_X9_readClauseEnd hd_X9_readClauseEnd ⟨Nat.le_trans (by decide) hfr, Nat.le_trans (by decide) hlo⟩ rfl rfl rfl (Nat.le_of_ble_eq_true rfl) dX9_readClause_175 (fun zz59 H locs hp61 G => ?_)
          obtain ⟨oo62, kk63⟩ := hp61
          have kk64 : KC z zz59 := KC.tr kk58 kk63
          exact RET G ⟨oo62, kk64⟩ dX9_readClause_178
    · skip
      have b65 : iv 1 1 r15 := ne_lo c19 b17 (by decide) (by decide)
      refine lv_aload_n E.1 E.2.1 dX9_readClause_55 rfl (lv_at hl 1 rfl) ?_
      refine t_get E G 9 0 (rfl : ro 3 = 9) (C := RX9) (T := TX9) (N := 3) rfl (by decide) (by decide) (by decide) mw_fl_9_12 (fvl_d rfl) dX9_readClause_56 ?_
      rw [h8]
      refine lv_iconst (v := 4) E.1 E.2.1 dX9_readClause_59 (by decide) ?_
      refine t_vv E G hl (tp_blame_z l D K ad zz2 oo5 qq1 aqq1 (4 : Int32) (iv_mono (iv_lit (lo := 4) (hi := 4) 4 (by decide) (by decide)) (by decide) (by decide))) 7 (at_ro (i := 0) aqq1 (by decide) : ro qq1 = 7) (by decide) rfl rfl 1 rfl mw_code_X7_blame mw_ini_7 mw_ml_9_52 mw_inst_X7_blame mw_sel_X7_blame hd_X7_blame ⟨Nat.le_trans (by decide) hfr, Nat.le_trans (by decide) hlo⟩ rfl rfl rfl (Nat.le_of_ble_eq_true rfl) dX9_readClause_60 (fun zz67 H locs hp69 G => ?_)
      obtain ⟨oo70, kk71, h72⟩ := hp69
      have kk73 : KC z zz67 := KC.tr kk7 (KT.c kk71)
      have h74 : tP zz67 3 0 = qq1 := KF.p kk71 h8
      exact RET G ⟨oo70, kk73⟩ dX9_readClause_63
  · skip
    refine lv_iload_n E.1 E.2.1 dX9_readClause_21 rfl (lv_at hl 0 rfl) ?_
    refine lv_bipush (v := 17) E.1 E.2.1 dX9_readClause_22 (by decide) ?_
    refine lv_icmp_eq (tgt := 46) E.1 E.2.1 dX9_readClause_24 (by decide) (fun c75 => ?_) (fun c75 => ?_)
    · skip
      subst c75
      refine lv_aload_n E.1 E.2.1 dX9_readClause_46 rfl (lv_at hl 1 rfl) ?_
      refine lv_iload_n E.1 E.2.1 dX9_readClause_47 rfl (lv_at hl 0 rfl) ?_
      refine lv_iload_n E.1 E.2.1 dX9_readClause_48 rfl (lv_at hl 2 rfl) ?_
      refine t_vi E G hl (tr_many_17 l D K ad zz2 oo5 x1 (iv_mono bx1 (by decide) (by decide))) 9 (rfl : ro 3 = 9) (by decide) rfl rfl 2 rfl mw_code_X9_isTooMany mw_ini_9 mw_ml_9_55 mw_inst_X9_isTooMany mw_sel_X9_isTooMany hd_X9_isTooMany ⟨Nat.le_trans (by decide) hfr, Nat.le_trans (by decide) hlo⟩ rfl rfl rfl (Nat.le_of_ble_eq_true rfl) dX9_readClause_49 (fun r77 zz76 H locs hp78 G => ?_)
      obtain ⟨hz80, b79⟩ := hp78
      rw [hz80] at G
      refine lv_if_eq (tgt := 64) E.1 E.2.1 dX9_readClause_52 (by decide) (fun c81 => ?_) (fun c81 => ?_)
      · skip
        have b82 : iv 0 0 r77 := iv_eq c81 (iv_lit (lo := 0) (hi := 0) 0 (by decide) (by decide))
        refine lv_iload_n E.1 E.2.1 dX9_readClause_64 rfl (lv_at hl 0 rfl) ?_
        refine lv_bipush (v := 16) E.1 E.2.1 dX9_readClause_65 (by decide) ?_
        refine lv_icmp_ne (tgt := 74) E.1 E.2.1 dX9_readClause_67 (by decide) (fun _ => ?_) (fun h => absurd h (by decide))
        refine lv_iload_n E.1 E.2.1 dX9_readClause_74 rfl (lv_at hl 0 rfl) ?_
        refine lv_bipush (v := 17) E.1 E.2.1 dX9_readClause_75 (by decide) ?_
        refine lv_icmp_ne (tgt := 84) E.1 E.2.1 dX9_readClause_77 (by decide) (fun h => absurd (by decide) h) (fun _ => ?_)
        refine lv_iconst (v := 2) E.1 E.2.1 dX9_readClause_80 (by decide) ?_
        refine lv_goto (tgt := 85) E.1 E.2.1 dX9_readClause_81 (by decide) ?_
        refine lv_istore_n (lv' := [(3, .int 2), (2, .int 17), (0, .ref (ad 3)), (1, .int x1)]) E.1 E.2.1 dX9_readClause_85 rfl hl (by decide) rfl (fun ls hl => ?_)
        refine lv_iconst (v := 0) E.1 E.2.1 dX9_readClause_86 (by decide) ?_
        refine lv_istore (lv' := [(4, .int 0), (3, .int 2), (2, .int 17), (0, .ref (ad 3)), (1, .int x1)]) E.1 E.2.1 dX9_readClause_87 hl (by decide) rfl (fun ls hl => ?_)
        refine lv_iload E.1 E.2.1 dX9_readClause_89 (lv_at hl 0 rfl) ?_
        refine lv_iload_n E.1 E.2.1 dX9_readClause_91 rfl (lv_at hl 1 rfl) ?_
        refine lv_icmp_ge (tgt := 130) E.1 E.2.1 dX9_readClause_92 (by decide) (fun h => absurd h (by decide)) (fun _ => ?_)
        refine lv_aload_n E.1 E.2.1 dX9_readClause_95 rfl (lv_at hl 3 rfl) ?_
        refine t_get E G 9 0 (rfl : ro 3 = 9) (C := RX9) (T := TX9) (N := 3) rfl (by decide) (by decide) (by decide) mw_fl_9_12 (fvl_d rfl) dX9_readClause_96 ?_
        rw [h8]
        refine t_get E G 7 2 (at_ro (i := 0) aqq1 (by decide) : ro qq1 = 7) (C := RX7) (T := TX7) (N := 7) rfl (by decide) (by decide) (by decide) mw_fl_9_39 (fvl_i rfl) dX9_readClause_99 ?_
        refine lv_topi (fun v84 e85 => ?_)
        refine lv_if_ne (tgt := 130) E.1 E.2.1 dX9_readClause_102 (by decide) (fun c86 => ?_) (fun c86 => ?_)
        · skip
          refine lv_iload_n E.1 E.2.1 dX9_readClause_130 rfl (lv_at hl 2 rfl) ?_
          refine lv_bipush (v := 17) E.1 E.2.1 dX9_readClause_131 (by decide) ?_
          refine lv_icmp_ne (tgt := 159) E.1 E.2.1 dX9_readClause_133 (by decide) (fun h => absurd (by decide) h) (fun _ => ?_)
          refine lv_aload_n E.1 E.2.1 dX9_readClause_136 rfl (lv_at hl 3 rfl) ?_
          refine t_get E G 9 2 (rfl : ro 3 = 9) (C := RX9) (T := TX9) (N := 3) rfl (by decide) (by decide) (by decide) mw_fl_9_25 (v := .ref (ad 4)) (fvl_o (n := 1) rfl) dX9_readClause_137 ?_
          refine lv_iconst (v := 0) E.1 E.2.1 dX9_readClause_140 (by decide) ?_
          refine t_iald E G 34 (rfl : ro 4 = 34) (by decide) (by decide) rfl (n := 4) rfl (by unfold vp_in; decide) dX9_readClause_141 ?_
          refine lv_topi (fun v87 e88 => ?_)
          refine lv_aload_n E.1 E.2.1 dX9_readClause_142 rfl (lv_at hl 3 rfl) ?_
          refine t_get E G 9 2 (rfl : ro 3 = 9) (C := RX9) (T := TX9) (N := 3) rfl (by decide) (by decide) (by decide) mw_fl_9_25 (v := .ref (ad 4)) (fvl_o (n := 1) rfl) dX9_readClause_143 ?_
          refine lv_iconst (v := 1) E.1 E.2.1 dX9_readClause_146 (by decide) ?_
          refine t_iald E G 34 (rfl : ro 4 = 34) (by decide) (by decide) rfl (n := 4) rfl (by unfold vp_in; decide) dX9_readClause_147 ?_
          refine lv_topi (fun v89 e90 => ?_)
          refine lv_icmp_ne (tgt := 159) E.1 E.2.1 dX9_readClause_148 (by decide) (fun c91 => ?_) (fun c91 => ?_)
          · skip
            refine lv_aload_n E.1 E.2.1 dX9_readClause_159 rfl (lv_at hl 3 rfl) ?_
            refine t_get E G 9 0 (rfl : ro 3 = 9) (C := RX9) (T := TX9) (N := 3) rfl (by decide) (by decide) (by decide) mw_fl_9_12 (fvl_d rfl) dX9_readClause_160 ?_
            rw [h8]
            refine t_get E G 7 2 (at_ro (i := 0) aqq1 (by decide) : ro qq1 = 7) (C := RX7) (T := TX7) (N := 7) rfl (by decide) (by decide) (by decide) mw_fl_9_39 (fvl_i rfl) dX9_readClause_163 ?_
            refine m_ci v84 e85.symm ?_
            refine lv_if_ne (tgt := 178) E.1 E.2.1 dX9_readClause_166 (by decide) (fun _ => ?_) (fun h => absurd h c86)
            exact RET G ⟨oo5, kk7⟩ dX9_readClause_178
          · skip
            refine lv_aload_n E.1 E.2.1 dX9_readClause_151 rfl (lv_at hl 3 rfl) ?_
            refine t_get E G 9 0 (rfl : ro 3 = 9) (C := RX9) (T := TX9) (N := 3) rfl (by decide) (by decide) (by decide) mw_fl_9_12 (fvl_d rfl) dX9_readClause_152 ?_
            rw [h8]
            refine lv_iconst (v := 1) E.1 E.2.1 dX9_readClause_155 (by decide) ?_
            refine t_vv E G hl (tp_blame_z l D K ad zz2 oo5 qq1 aqq1 (1 : Int32) (iv_mono (iv_lit (lo := 1) (hi := 1) 1 (by decide) (by decide)) (by decide) (by decide))) 7 (at_ro (i := 0) aqq1 (by decide) : ro qq1 = 7) (by decide) rfl rfl 1 rfl mw_code_X7_blame mw_ini_7 mw_ml_9_52 mw_inst_X7_blame mw_sel_X7_blame hd_X7_blame ⟨Nat.le_trans (by decide) hfr, Nat.le_trans (by decide) hlo⟩ rfl rfl rfl (Nat.le_of_ble_eq_true rfl) dX9_readClause_156 (fun zz94 H locs hp96 G => ?_)
            obtain ⟨oo97, kk98, h99⟩ := hp96
            have kk100 : KC z zz94 := KC.tr kk7 (KT.c kk98)
            have h101 : tP zz94 3 0 = qq1 := KF.p kk98 h8
            refine lv_aload_n E.1 E.2.1 dX9_readClause_159 rfl (lv_at hl 3 rfl) ?_
            refine t_get E G 9 0 (rfl : ro 3 = 9) (C := RX9) (T := TX9) (N := 3) rfl (by decide) (by decide) (by decide) mw_fl_9_12 (fvl_d rfl) dX9_readClause_160 ?_
            rw [h101]
            refine t_get E G 7 2 (at_ro (i := 0) aqq1 (by decide) : ro qq1 = 7) (C := RX7) (T := TX7) (N := 7) rfl (by decide) (by decide) (by decide) mw_fl_9_39 (fvl_i rfl) dX9_readClause_163 ?_
            refine lv_topi (fun v103 e104 => ?_)
            refine lv_if_ne (tgt := 178) E.1 E.2.1 dX9_readClause_166 (by decide) (fun _ => ?_) (fun h => absurd h (by rw [e104]; exact h99))
            exact RET G ⟨oo97, kk100⟩ dX9_readClause_178
        · skip
          have b105 : iv 0 0 v84 := iv_eq c86 (iv_lit (lo := 0) (hi := 0) 0 (by decide) (by decide))
          refine lv_aload_n E.1 E.2.1 dX9_readClause_105 rfl (lv_at hl 3 rfl) ?_
          refine lv_iload E.1 E.2.1 dX9_readClause_106 (lv_at hl 0 rfl) ?_
          refine lv_iload_n E.1 E.2.1 dX9_readClause_108 rfl (lv_at hl 2 rfl) ?_
          refine lv_iload E.1 E.2.1 dX9_readClause_109 (lv_at hl 0 rfl) ?_
          refine t_si E G hl (tr_least_17_0 l D K ad zz2 oo5) 2 rfl mw_code_X9_leastOf mw_ini_9 mw_ml_9_59 mw_stat_X9_leastOf hd_X9_leastOf ⟨Nat.le_trans (by decide) hfr, Nat.le_trans (by decide) hlo⟩ rfl rfl rfl (Nat.le_of_ble_eq_true rfl) dX9_readClause_111 (fun r107 zz106 H locs hp108 G => ?_)
          obtain ⟨hz110, b109⟩ := hp108
          rw [hz110] at G
          refine lv_aload_n E.1 E.2.1 dX9_readClause_114 rfl (lv_at hl 3 rfl) ?_
          refine lv_iload_n E.1 E.2.1 dX9_readClause_115 rfl (lv_at hl 2 rfl) ?_
          refine lv_iload E.1 E.2.1 dX9_readClause_116 (lv_at hl 0 rfl) ?_
          refine t_vi E G hl (tr_most_17_0 l D K ad zz2 oo5) 9 (rfl : ro 3 = 9) (by decide) rfl rfl 2 rfl mw_code_X9_mostOf mw_ini_9 mw_ml_9_63 mw_inst_X9_mostOf mw_sel_X9_mostOf hd_X9_mostOf ⟨Nat.le_trans (by decide) hfr, Nat.le_trans (by decide) hlo⟩ rfl rfl rfl (Nat.le_of_ble_eq_true rfl) dX9_readClause_118 (fun r112 zz111 H locs hp113 G => ?_)
          obtain ⟨hz115, b114⟩ := hp113
          rw [hz115] at G
          refine t_vv E G hl (tr_num_0 l D K ad zz2 oo5 r107 (iv_mono b109 (by decide) (by decide)) r112 (iv_mono b114 (by decide) (by decide))) 9 (rfl : ro 3 = 9) (by decide) rfl rfl 3 rfl mw_code_X9_readNumber mw_ini_9 mw_ml_9_66 mw_inst_X9_readNumber mw_sel_X9_readNumber hd_X9_readNumber ⟨Nat.le_trans (by decide) hfr, Nat.le_trans (by decide) hlo⟩ rfl rfl rfl (Nat.le_of_ble_eq_true rfl) dX9_readClause_121 (fun zz116 H locs hp118 G => ?_)
          obtain ⟨oo119, kk120, h121, h122⟩ := hp118
          have kk123 : KC z zz116 := KC.tr kk7 (KN.c kk120)
          have h124 : tP zz116 3 0 = qq1 := KF.p kk120 h8
          have F125 := h122
          rw [← kk120.2.2.2, h124] at F125
          refine lv_iinc (v := 1) (lv' := [(4, .int 1), (3, .int 2), (2, .int 17), (0, .ref (ad 3)), (1, .int x1)]) E.1 E.2.1 dX9_readClause_124 hl (k := 0) rfl (by decide) (by decide) rfl (fun ls hl => ?_)
          refine lv_goto (tgt := 89) E.1 E.2.1 dX9_readClause_127 (by decide) ?_
          refine lv_iload E.1 E.2.1 dX9_readClause_89 (lv_at hl 0 rfl) ?_
          refine lv_iload_n E.1 E.2.1 dX9_readClause_91 rfl (lv_at hl 1 rfl) ?_
          refine lv_icmp_ge (tgt := 130) E.1 E.2.1 dX9_readClause_92 (by decide) (fun h => absurd h (by decide)) (fun _ => ?_)
          refine lv_aload_n E.1 E.2.1 dX9_readClause_95 rfl (lv_at hl 3 rfl) ?_
          refine t_get E G 9 0 (rfl : ro 3 = 9) (C := RX9) (T := TX9) (N := 3) rfl (by decide) (by decide) (by decide) mw_fl_9_12 (fvl_d rfl) dX9_readClause_96 ?_
          rw [h124]
          refine t_get E G 7 2 (at_ro (i := 0) aqq1 (by decide) : ro qq1 = 7) (C := RX7) (T := TX7) (N := 7) rfl (by decide) (by decide) (by decide) mw_fl_9_39 (fvl_i rfl) dX9_readClause_99 ?_
          refine lv_topi (fun v127 e128 => ?_)
          refine lv_if_ne (tgt := 130) E.1 E.2.1 dX9_readClause_102 (by decide) (fun c129 => ?_) (fun c129 => ?_)
          · skip
            refine lv_iload_n E.1 E.2.1 dX9_readClause_130 rfl (lv_at hl 2 rfl) ?_
            refine lv_bipush (v := 17) E.1 E.2.1 dX9_readClause_131 (by decide) ?_
            refine lv_icmp_ne (tgt := 159) E.1 E.2.1 dX9_readClause_133 (by decide) (fun h => absurd (by decide) h) (fun _ => ?_)
            refine lv_aload_n E.1 E.2.1 dX9_readClause_136 rfl (lv_at hl 3 rfl) ?_
            refine t_get E G 9 2 (rfl : ro 3 = 9) (C := RX9) (T := TX9) (N := 3) rfl (by decide) (by decide) (by decide) mw_fl_9_25 (v := .ref (ad 4)) (fvl_o (n := 1) rfl) dX9_readClause_137 ?_
            refine lv_iconst (v := 0) E.1 E.2.1 dX9_readClause_140 (by decide) ?_
            refine t_iald E G 34 (rfl : ro 4 = 34) (by decide) (by decide) rfl (n := 4) rfl (by unfold vp_in; decide) dX9_readClause_141 ?_
            refine lv_topi (fun v130 e131 => ?_)
            refine lv_aload_n E.1 E.2.1 dX9_readClause_142 rfl (lv_at hl 3 rfl) ?_
            refine t_get E G 9 2 (rfl : ro 3 = 9) (C := RX9) (T := TX9) (N := 3) rfl (by decide) (by decide) (by decide) mw_fl_9_25 (v := .ref (ad 4)) (fvl_o (n := 1) rfl) dX9_readClause_143 ?_
            refine lv_iconst (v := 1) E.1 E.2.1 dX9_readClause_146 (by decide) ?_
            refine t_iald E G 34 (rfl : ro 4 = 34) (by decide) (by decide) rfl (n := 4) rfl (by unfold vp_in; decide) dX9_readClause_147 ?_
            refine lv_topi (fun v132 e133 => ?_)
            refine lv_icmp_ne (tgt := 159) E.1 E.2.1 dX9_readClause_148 (by decide) (fun c134 => ?_) (fun c134 => ?_)
            · skip
              refine lv_aload_n E.1 E.2.1 dX9_readClause_159 rfl (lv_at hl 3 rfl) ?_
              refine t_get E G 9 0 (rfl : ro 3 = 9) (C := RX9) (T := TX9) (N := 3) rfl (by decide) (by decide) (by decide) mw_fl_9_12 (fvl_d rfl) dX9_readClause_160 ?_
              rw [h124]
              refine t_get E G 7 2 (at_ro (i := 0) aqq1 (by decide) : ro qq1 = 7) (C := RX7) (T := TX7) (N := 7) rfl (by decide) (by decide) (by decide) mw_fl_9_39 (fvl_i rfl) dX9_readClause_163 ?_
              refine m_ci v127 e128.symm ?_
              refine lv_if_ne (tgt := 178) E.1 E.2.1 dX9_readClause_166 (by decide) (fun _ => ?_) (fun h => absurd h c129)
              exact RET G ⟨oo119, kk123⟩ dX9_readClause_178
            · skip
              refine lv_aload_n E.1 E.2.1 dX9_readClause_151 rfl (lv_at hl 3 rfl) ?_
              refine t_get E G 9 0 (rfl : ro 3 = 9) (C := RX9) (T := TX9) (N := 3) rfl (by decide) (by decide) (by decide) mw_fl_9_12 (fvl_d rfl) dX9_readClause_152 ?_
              rw [h124]
              refine lv_iconst (v := 1) E.1 E.2.1 dX9_readClause_155 (by decide) ?_
              refine t_vv E G hl (tp_blame_z l D K ad zz116 oo119 qq1 aqq1 (1 : Int32) (iv_mono (iv_lit (lo := 1) (hi := 1) 1 (by decide) (by decide)) (by decide) (by decide))) 7 (at_ro (i := 0) aqq1 (by decide) : ro qq1 = 7) (by decide) rfl rfl 1 rfl mw_code_X7_blame mw_ini_7 mw_ml_9_52 mw_inst_X7_blame mw_sel_X7_blame hd_X7_blame ⟨Nat.le_trans (by decide) hfr, Nat.le_trans (by decide) hlo⟩ rfl rfl rfl (Nat.le_of_ble_eq_true rfl) dX9_readClause_156 (fun zz137 H locs hp139 G => ?_)
              obtain ⟨oo140, kk141, h142⟩ := hp139
              have kk143 : KC z zz137 := KC.tr kk123 (KT.c kk141)
              have h144 : tP zz137 3 0 = qq1 := KF.p kk141 h124
              refine lv_aload_n E.1 E.2.1 dX9_readClause_159 rfl (lv_at hl 3 rfl) ?_
              refine t_get E G 9 0 (rfl : ro 3 = 9) (C := RX9) (T := TX9) (N := 3) rfl (by decide) (by decide) (by decide) mw_fl_9_12 (fvl_d rfl) dX9_readClause_160 ?_
              rw [h144]
              refine t_get E G 7 2 (at_ro (i := 0) aqq1 (by decide) : ro qq1 = 7) (C := RX7) (T := TX7) (N := 7) rfl (by decide) (by decide) (by decide) mw_fl_9_39 (fvl_i rfl) dX9_readClause_163 ?_
              refine lv_topi (fun v146 e147 => ?_)
              refine lv_if_ne (tgt := 178) E.1 E.2.1 dX9_readClause_166 (by decide) (fun _ => ?_) (fun h => absurd h (by rw [e147]; exact h142))
              exact RET G ⟨oo140, kk143⟩ dX9_readClause_178
          · skip
            have b148 : iv 0 0 v127 := iv_eq c129 (iv_lit (lo := 0) (hi := 0) 0 (by decide) (by decide))
            have h149 : iv 0 7 (tA zz116 4 0) := f2_iv F125 b109 b114 e128.symm c129
            refine lv_aload_n E.1 E.2.1 dX9_readClause_105 rfl (lv_at hl 3 rfl) ?_
            refine lv_iload E.1 E.2.1 dX9_readClause_106 (lv_at hl 0 rfl) ?_
            refine lv_iload_n E.1 E.2.1 dX9_readClause_108 rfl (lv_at hl 2 rfl) ?_
            refine lv_iload E.1 E.2.1 dX9_readClause_109 (lv_at hl 0 rfl) ?_
            refine t_si E G hl (tr_least_17_1 l D K ad zz116 oo119) 2 rfl mw_code_X9_leastOf mw_ini_9 mw_ml_9_59 mw_stat_X9_leastOf hd_X9_leastOf ⟨Nat.le_trans (by decide) hfr, Nat.le_trans (by decide) hlo⟩ rfl rfl rfl (Nat.le_of_ble_eq_true rfl) dX9_readClause_111 (fun r151 zz150 H locs hp152 G => ?_)
            obtain ⟨hz154, b153⟩ := hp152
            rw [hz154] at G
            refine lv_aload_n E.1 E.2.1 dX9_readClause_114 rfl (lv_at hl 3 rfl) ?_
            refine lv_iload_n E.1 E.2.1 dX9_readClause_115 rfl (lv_at hl 2 rfl) ?_
            refine lv_iload E.1 E.2.1 dX9_readClause_116 (lv_at hl 0 rfl) ?_
            refine t_vi E G hl (tr_most_17_1 l D K ad zz116 oo119) 9 (rfl : ro 3 = 9) (by decide) rfl rfl 2 rfl mw_code_X9_mostOf mw_ini_9 mw_ml_9_63 mw_inst_X9_mostOf mw_sel_X9_mostOf hd_X9_mostOf ⟨Nat.le_trans (by decide) hfr, Nat.le_trans (by decide) hlo⟩ rfl rfl rfl (Nat.le_of_ble_eq_true rfl) dX9_readClause_118 (fun r156 zz155 H locs hp157 G => ?_)
            obtain ⟨hz159, b158⟩ := hp157
            rw [hz159] at G
            refine t_vv E G hl (tr_num_1 l D K ad zz116 oo119 r151 (iv_mono b153 (by decide) (by decide)) r156 (iv_mono b158 (by decide) (by decide))) 9 (rfl : ro 3 = 9) (by decide) rfl rfl 3 rfl mw_code_X9_readNumber mw_ini_9 mw_ml_9_66 mw_inst_X9_readNumber mw_sel_X9_readNumber hd_X9_readNumber ⟨Nat.le_trans (by decide) hfr, Nat.le_trans (by decide) hlo⟩ rfl rfl rfl (Nat.le_of_ble_eq_true rfl) dX9_readClause_121 (fun zz160 H locs hp162 G => ?_)
            obtain ⟨oo163, kk164, h165, h166⟩ := hp162
            have kk167 : KC z zz160 := KC.tr kk123 (KN.c kk164)
            have h168 : tP zz160 3 0 = qq1 := KF.p kk164 h124
            have F169 := h166
            rw [← kk164.2.2.2, h168] at F169
            have h170 : iv 0 7 (tA zz160 4 0) := by rw [h165 0 (by decide)]; exact h149
            refine lv_iinc (v := 2) (lv' := [(4, .int 2), (3, .int 2), (2, .int 17), (0, .ref (ad 3)), (1, .int x1)]) E.1 E.2.1 dX9_readClause_124 hl (k := 0) rfl (by decide) (by decide) rfl (fun ls hl => ?_)
            refine lv_goto (tgt := 89) E.1 E.2.1 dX9_readClause_127 (by decide) ?_
            refine lv_iload E.1 E.2.1 dX9_readClause_89 (lv_at hl 0 rfl) ?_
            refine lv_iload_n E.1 E.2.1 dX9_readClause_91 rfl (lv_at hl 1 rfl) ?_
            refine lv_icmp_ge (tgt := 130) E.1 E.2.1 dX9_readClause_92 (by decide) (fun _ => ?_) (fun h => absurd (by decide) h)
            refine lv_iload_n E.1 E.2.1 dX9_readClause_130 rfl (lv_at hl 2 rfl) ?_
            refine lv_bipush (v := 17) E.1 E.2.1 dX9_readClause_131 (by decide) ?_
            refine lv_icmp_ne (tgt := 159) E.1 E.2.1 dX9_readClause_133 (by decide) (fun h => absurd (by decide) h) (fun _ => ?_)
            refine lv_aload_n E.1 E.2.1 dX9_readClause_136 rfl (lv_at hl 3 rfl) ?_
            refine t_get E G 9 2 (rfl : ro 3 = 9) (C := RX9) (T := TX9) (N := 3) rfl (by decide) (by decide) (by decide) mw_fl_9_25 (v := .ref (ad 4)) (fvl_o (n := 1) rfl) dX9_readClause_137 ?_
            refine lv_iconst (v := 0) E.1 E.2.1 dX9_readClause_140 (by decide) ?_
            refine t_iald E G 34 (rfl : ro 4 = 34) (by decide) (by decide) rfl (n := 4) rfl (by unfold vp_in; decide) dX9_readClause_141 ?_
            refine lv_topi (fun v171 e172 => ?_)
            refine lv_aload_n E.1 E.2.1 dX9_readClause_142 rfl (lv_at hl 3 rfl) ?_
            refine t_get E G 9 2 (rfl : ro 3 = 9) (C := RX9) (T := TX9) (N := 3) rfl (by decide) (by decide) (by decide) mw_fl_9_25 (v := .ref (ad 4)) (fvl_o (n := 1) rfl) dX9_readClause_143 ?_
            refine lv_iconst (v := 1) E.1 E.2.1 dX9_readClause_146 (by decide) ?_
            refine t_iald E G 34 (rfl : ro 4 = 34) (by decide) (by decide) rfl (n := 4) rfl (by unfold vp_in; decide) dX9_readClause_147 ?_
            refine lv_topi (fun v173 e174 => ?_)
            refine lv_icmp_ne (tgt := 159) E.1 E.2.1 dX9_readClause_148 (by decide) (fun c175 => ?_) (fun c175 => ?_)
            · skip
              refine lv_aload_n E.1 E.2.1 dX9_readClause_159 rfl (lv_at hl 3 rfl) ?_
              refine t_get E G 9 0 (rfl : ro 3 = 9) (C := RX9) (T := TX9) (N := 3) rfl (by decide) (by decide) (by decide) mw_fl_9_12 (fvl_d rfl) dX9_readClause_160 ?_
              rw [h168]
              refine t_get E G 7 2 (at_ro (i := 0) aqq1 (by decide) : ro qq1 = 7) (C := RX7) (T := TX7) (N := 7) rfl (by decide) (by decide) (by decide) mw_fl_9_39 (fvl_i rfl) dX9_readClause_163 ?_
              refine lv_topi (fun v177 e178 => ?_)
              refine lv_if_ne (tgt := 178) E.1 E.2.1 dX9_readClause_166 (by decide) (fun c179 => ?_) (fun c179 => ?_)
              · skip
                exact RET G ⟨oo163, kk167⟩ dX9_readClause_178
              · skip
                have b180 : iv 0 0 v177 := iv_eq c179 (iv_lit (lo := 0) (hi := 0) 0 (by decide) (by decide))
                have h181 : iv 0 7 (tA zz160 4 1) := f2_iv F169 b153 b158 e178.symm c179
                refine lv_aload_n E.1 E.2.1 dX9_readClause_169 rfl (lv_at hl 3 rfl) ?_
                refine lv_iload_n E.1 E.2.1 dX9_readClause_170 rfl (lv_at hl 2 rfl) ?_
                refine t_vv E G hl (tr_tell_17 l D K ad zz160 oo163 (iv_mono h170 (by decide) (by decide)) (iv_mono h181 (by decide) (by decide))) 9 (rfl : ro 3 = 9) (by decide) rfl rfl 1 rfl mw_code_X9_tellTown mw_ini_9 mw_ml_9_70 mw_inst_X9_tellTown mw_sel_X9_tellTown hd_X9_tellTown ⟨Nat.le_trans (by decide) hfr, Nat.le_trans (by decide) hlo⟩ rfl rfl rfl (Nat.le_of_ble_eq_true rfl) dX9_readClause_171 (fun zz182 H locs hp184 G => ?_)
                obtain ⟨oo185, kk186⟩ := hp184
                have kk187 : KC z zz182 := KC.tr kk167 kk186
                refine lv_aload_n E.1 E.2.1 dX9_readClause_174 rfl (lv_at hl 3 rfl) ?_
                refine t_vv E G hl (tr_clauseEnd l D K ad zz182 oo185) 9 (rfl : ro 3 = 9) (by decide) rfl rfl 0 rfl mw_code_X9_readClauseEnd mw_ini_9 mw_ml_9_73 mw_inst_X9_readClauseEnd mw_sel_X9_readClauseEnd hd_X9_readClauseEnd ⟨Nat.le_trans (by decide) hfr, Nat.le_trans (by decide) hlo⟩ rfl rfl rfl (Nat.le_of_ble_eq_true rfl) dX9_readClause_175 (fun zz188 H locs hp190 G => ?_)
                obtain ⟨oo191, kk192⟩ := hp190
                have kk193 : KC z zz188 := KC.tr kk187 kk192
                exact RET G ⟨oo191, kk193⟩ dX9_readClause_178
            · skip
              refine lv_aload_n E.1 E.2.1 dX9_readClause_151 rfl (lv_at hl 3 rfl) ?_
              refine t_get E G 9 0 (rfl : ro 3 = 9) (C := RX9) (T := TX9) (N := 3) rfl (by decide) (by decide) (by decide) mw_fl_9_12 (fvl_d rfl) dX9_readClause_152 ?_
              rw [h168]
              refine lv_iconst (v := 1) E.1 E.2.1 dX9_readClause_155 (by decide) ?_
              refine t_vv E G hl (tp_blame_z l D K ad zz160 oo163 qq1 aqq1 (1 : Int32) (iv_mono (iv_lit (lo := 1) (hi := 1) 1 (by decide) (by decide)) (by decide) (by decide))) 7 (at_ro (i := 0) aqq1 (by decide) : ro qq1 = 7) (by decide) rfl rfl 1 rfl mw_code_X7_blame mw_ini_7 mw_ml_9_52 mw_inst_X7_blame mw_sel_X7_blame hd_X7_blame ⟨Nat.le_trans (by decide) hfr, Nat.le_trans (by decide) hlo⟩ rfl rfl rfl (Nat.le_of_ble_eq_true rfl) dX9_readClause_156 (fun zz195 H locs hp197 G => ?_)
              obtain ⟨oo198, kk199, h200⟩ := hp197
              have kk201 : KC z zz195 := KC.tr kk167 (KT.c kk199)
              have h202 : tP zz195 3 0 = qq1 := KF.p kk199 h168
              refine lv_aload_n E.1 E.2.1 dX9_readClause_159 rfl (lv_at hl 3 rfl) ?_
              refine t_get E G 9 0 (rfl : ro 3 = 9) (C := RX9) (T := TX9) (N := 3) rfl (by decide) (by decide) (by decide) mw_fl_9_12 (fvl_d rfl) dX9_readClause_160 ?_
              rw [h202]
              refine t_get E G 7 2 (at_ro (i := 0) aqq1 (by decide) : ro qq1 = 7) (C := RX7) (T := TX7) (N := 7) rfl (by decide) (by decide) (by decide) mw_fl_9_39 (fvl_i rfl) dX9_readClause_163 ?_
              refine lv_topi (fun v204 e205 => ?_)
              refine lv_if_ne (tgt := 178) E.1 E.2.1 dX9_readClause_166 (by decide) (fun _ => ?_) (fun h => absurd h (by rw [e205]; exact h200))
              exact RET G ⟨oo198, kk201⟩ dX9_readClause_178
      · skip
        have b206 : iv 1 1 r77 := ne_lo c81 b79 (by decide) (by decide)
        refine lv_aload_n E.1 E.2.1 dX9_readClause_55 rfl (lv_at hl 1 rfl) ?_
        refine t_get E G 9 0 (rfl : ro 3 = 9) (C := RX9) (T := TX9) (N := 3) rfl (by decide) (by decide) (by decide) mw_fl_9_12 (fvl_d rfl) dX9_readClause_56 ?_
        rw [h8]
        refine lv_iconst (v := 4) E.1 E.2.1 dX9_readClause_59 (by decide) ?_
        refine t_vv E G hl (tp_blame_z l D K ad zz2 oo5 qq1 aqq1 (4 : Int32) (iv_mono (iv_lit (lo := 4) (hi := 4) 4 (by decide) (by decide)) (by decide) (by decide))) 7 (at_ro (i := 0) aqq1 (by decide) : ro qq1 = 7) (by decide) rfl rfl 1 rfl mw_code_X7_blame mw_ini_7 mw_ml_9_52 mw_inst_X7_blame mw_sel_X7_blame hd_X7_blame ⟨Nat.le_trans (by decide) hfr, Nat.le_trans (by decide) hlo⟩ rfl rfl rfl (Nat.le_of_ble_eq_true rfl) dX9_readClause_60 (fun zz208 H locs hp210 G => ?_)
        obtain ⟨oo211, kk212, h213⟩ := hp210
        have kk214 : KC z zz208 := KC.tr kk7 (KT.c kk212)
        have h215 : tP zz208 3 0 = qq1 := KF.p kk212 h8
        exact RET G ⟨oo211, kk214⟩ dX9_readClause_63
    · skip
      refine lv_iload_n E.1 E.2.1 dX9_readClause_27 rfl (lv_at hl 0 rfl) ?_
      refine lv_bipush (v := 18) E.1 E.2.1 dX9_readClause_28 (by decide) ?_
      refine lv_icmp_eq (tgt := 46) E.1 E.2.1 dX9_readClause_30 (by decide) (fun c216 => ?_) (fun c216 => ?_)
      · skip
        subst c216
        refine lv_aload_n E.1 E.2.1 dX9_readClause_46 rfl (lv_at hl 1 rfl) ?_
        refine lv_iload_n E.1 E.2.1 dX9_readClause_47 rfl (lv_at hl 0 rfl) ?_
        refine lv_iload_n E.1 E.2.1 dX9_readClause_48 rfl (lv_at hl 2 rfl) ?_
        refine t_vi E G hl (tr_many_18 l D K ad zz2 oo5 x1 (iv_mono bx1 (by decide) (by decide))) 9 (rfl : ro 3 = 9) (by decide) rfl rfl 2 rfl mw_code_X9_isTooMany mw_ini_9 mw_ml_9_55 mw_inst_X9_isTooMany mw_sel_X9_isTooMany hd_X9_isTooMany ⟨Nat.le_trans (by decide) hfr, Nat.le_trans (by decide) hlo⟩ rfl rfl rfl (Nat.le_of_ble_eq_true rfl) dX9_readClause_49 (fun r218 zz217 H locs hp219 G => ?_)
        obtain ⟨hz222, b220, h221⟩ := hp219
        rw [hz222] at G
        refine lv_if_eq (tgt := 64) E.1 E.2.1 dX9_readClause_52 (by decide) (fun c223 => ?_) (fun c223 => ?_)
        · skip
          have b224 : iv 0 0 r218 := iv_eq c223 (iv_lit (lo := 0) (hi := 0) 0 (by decide) (by decide))
          have h225 := h221 c223
          refine lv_iload_n E.1 E.2.1 dX9_readClause_64 rfl (lv_at hl 0 rfl) ?_
          refine lv_bipush (v := 16) E.1 E.2.1 dX9_readClause_65 (by decide) ?_
          refine lv_icmp_ne (tgt := 74) E.1 E.2.1 dX9_readClause_67 (by decide) (fun _ => ?_) (fun h => absurd h (by decide))
          refine lv_iload_n E.1 E.2.1 dX9_readClause_74 rfl (lv_at hl 0 rfl) ?_
          refine lv_bipush (v := 17) E.1 E.2.1 dX9_readClause_75 (by decide) ?_
          refine lv_icmp_ne (tgt := 84) E.1 E.2.1 dX9_readClause_77 (by decide) (fun _ => ?_) (fun h => absurd h (by decide))
          refine lv_iconst (v := 4) E.1 E.2.1 dX9_readClause_84 (by decide) ?_
          refine lv_istore_n (lv' := [(3, .int 4), (2, .int 18), (0, .ref (ad 3)), (1, .int x1)]) E.1 E.2.1 dX9_readClause_85 rfl hl (by decide) rfl (fun ls hl => ?_)
          refine lv_iconst (v := 0) E.1 E.2.1 dX9_readClause_86 (by decide) ?_
          refine lv_istore (lv' := [(4, .int 0), (3, .int 4), (2, .int 18), (0, .ref (ad 3)), (1, .int x1)]) E.1 E.2.1 dX9_readClause_87 hl (by decide) rfl (fun ls hl => ?_)
          refine lv_iload E.1 E.2.1 dX9_readClause_89 (lv_at hl 0 rfl) ?_
          refine lv_iload_n E.1 E.2.1 dX9_readClause_91 rfl (lv_at hl 1 rfl) ?_
          refine lv_icmp_ge (tgt := 130) E.1 E.2.1 dX9_readClause_92 (by decide) (fun h => absurd h (by decide)) (fun _ => ?_)
          refine lv_aload_n E.1 E.2.1 dX9_readClause_95 rfl (lv_at hl 3 rfl) ?_
          refine t_get E G 9 0 (rfl : ro 3 = 9) (C := RX9) (T := TX9) (N := 3) rfl (by decide) (by decide) (by decide) mw_fl_9_12 (fvl_d rfl) dX9_readClause_96 ?_
          rw [h8]
          refine t_get E G 7 2 (at_ro (i := 0) aqq1 (by decide) : ro qq1 = 7) (C := RX7) (T := TX7) (N := 7) rfl (by decide) (by decide) (by decide) mw_fl_9_39 (fvl_i rfl) dX9_readClause_99 ?_
          refine lv_topi (fun v227 e228 => ?_)
          refine lv_if_ne (tgt := 130) E.1 E.2.1 dX9_readClause_102 (by decide) (fun c229 => ?_) (fun c229 => ?_)
          · skip
            refine lv_iload_n E.1 E.2.1 dX9_readClause_130 rfl (lv_at hl 2 rfl) ?_
            refine lv_bipush (v := 17) E.1 E.2.1 dX9_readClause_131 (by decide) ?_
            refine lv_icmp_ne (tgt := 159) E.1 E.2.1 dX9_readClause_133 (by decide) (fun _ => ?_) (fun h => absurd h (by decide))
            refine lv_aload_n E.1 E.2.1 dX9_readClause_159 rfl (lv_at hl 3 rfl) ?_
            refine t_get E G 9 0 (rfl : ro 3 = 9) (C := RX9) (T := TX9) (N := 3) rfl (by decide) (by decide) (by decide) mw_fl_9_12 (fvl_d rfl) dX9_readClause_160 ?_
            rw [h8]
            refine t_get E G 7 2 (at_ro (i := 0) aqq1 (by decide) : ro qq1 = 7) (C := RX7) (T := TX7) (N := 7) rfl (by decide) (by decide) (by decide) mw_fl_9_39 (fvl_i rfl) dX9_readClause_163 ?_
            refine m_ci v227 e228.symm ?_
            refine lv_if_ne (tgt := 178) E.1 E.2.1 dX9_readClause_166 (by decide) (fun _ => ?_) (fun h => absurd h c229)
            exact RET G ⟨oo5, kk7⟩ dX9_readClause_178
          · skip
            have b231 : iv 0 0 v227 := iv_eq c229 (iv_lit (lo := 0) (hi := 0) 0 (by decide) (by decide))
            refine lv_aload_n E.1 E.2.1 dX9_readClause_105 rfl (lv_at hl 3 rfl) ?_
            refine lv_iload E.1 E.2.1 dX9_readClause_106 (lv_at hl 0 rfl) ?_
            refine lv_iload_n E.1 E.2.1 dX9_readClause_108 rfl (lv_at hl 2 rfl) ?_
            refine lv_iload E.1 E.2.1 dX9_readClause_109 (lv_at hl 0 rfl) ?_
            refine t_si E G hl (tr_least_18_0 l D K ad zz2 oo5) 2 rfl mw_code_X9_leastOf mw_ini_9 mw_ml_9_59 mw_stat_X9_leastOf hd_X9_leastOf ⟨Nat.le_trans (by decide) hfr, Nat.le_trans (by decide) hlo⟩ rfl rfl rfl (Nat.le_of_ble_eq_true rfl) dX9_readClause_111 (fun r233 zz232 H locs hp234 G => ?_)
            obtain ⟨hz236, b235⟩ := hp234
            rw [hz236] at G
            refine lv_aload_n E.1 E.2.1 dX9_readClause_114 rfl (lv_at hl 3 rfl) ?_
            refine lv_iload_n E.1 E.2.1 dX9_readClause_115 rfl (lv_at hl 2 rfl) ?_
            refine lv_iload E.1 E.2.1 dX9_readClause_116 (lv_at hl 0 rfl) ?_
            refine t_vi E G hl (tr_most_18_0 l D K ad zz2 oo5) 9 (rfl : ro 3 = 9) (by decide) rfl rfl 2 rfl mw_code_X9_mostOf mw_ini_9 mw_ml_9_63 mw_inst_X9_mostOf mw_sel_X9_mostOf hd_X9_mostOf ⟨Nat.le_trans (by decide) hfr, Nat.le_trans (by decide) hlo⟩ rfl rfl rfl (Nat.le_of_ble_eq_true rfl) dX9_readClause_118 (fun r238 zz237 H locs hp239 G => ?_)
            obtain ⟨hz241, b240⟩ := hp239
            rw [hz241] at G
            refine t_vv E G hl (tr_num_0 l D K ad zz2 oo5 r233 (iv_mono b235 (by decide) (by decide)) r238 (iv_mono b240 (by decide) (by decide))) 9 (rfl : ro 3 = 9) (by decide) rfl rfl 3 rfl mw_code_X9_readNumber mw_ini_9 mw_ml_9_66 mw_inst_X9_readNumber mw_sel_X9_readNumber hd_X9_readNumber ⟨Nat.le_trans (by decide) hfr, Nat.le_trans (by decide) hlo⟩ rfl rfl rfl (Nat.le_of_ble_eq_true rfl) dX9_readClause_121 (fun zz242 H locs hp244 G => ?_)
            obtain ⟨oo245, kk246, h247, h248⟩ := hp244
            have kk249 : KC z zz242 := KC.tr kk7 (KN.c kk246)
            have h250 : tP zz242 3 0 = qq1 := KF.p kk246 h8
            have F251 := h248
            rw [← kk246.2.2.2, h250] at F251
            have h252 := hn_keep oo5 kk246 h225
            refine lv_iinc (v := 1) (lv' := [(4, .int 1), (3, .int 4), (2, .int 18), (0, .ref (ad 3)), (1, .int x1)]) E.1 E.2.1 dX9_readClause_124 hl (k := 0) rfl (by decide) (by decide) rfl (fun ls hl => ?_)
            refine lv_goto (tgt := 89) E.1 E.2.1 dX9_readClause_127 (by decide) ?_
            refine lv_iload E.1 E.2.1 dX9_readClause_89 (lv_at hl 0 rfl) ?_
            refine lv_iload_n E.1 E.2.1 dX9_readClause_91 rfl (lv_at hl 1 rfl) ?_
            refine lv_icmp_ge (tgt := 130) E.1 E.2.1 dX9_readClause_92 (by decide) (fun h => absurd h (by decide)) (fun _ => ?_)
            refine lv_aload_n E.1 E.2.1 dX9_readClause_95 rfl (lv_at hl 3 rfl) ?_
            refine t_get E G 9 0 (rfl : ro 3 = 9) (C := RX9) (T := TX9) (N := 3) rfl (by decide) (by decide) (by decide) mw_fl_9_12 (fvl_d rfl) dX9_readClause_96 ?_
            rw [h250]
            refine t_get E G 7 2 (at_ro (i := 0) aqq1 (by decide) : ro qq1 = 7) (C := RX7) (T := TX7) (N := 7) rfl (by decide) (by decide) (by decide) mw_fl_9_39 (fvl_i rfl) dX9_readClause_99 ?_
            refine lv_topi (fun v254 e255 => ?_)
            refine lv_if_ne (tgt := 130) E.1 E.2.1 dX9_readClause_102 (by decide) (fun c256 => ?_) (fun c256 => ?_)
            · skip
              refine lv_iload_n E.1 E.2.1 dX9_readClause_130 rfl (lv_at hl 2 rfl) ?_
              refine lv_bipush (v := 17) E.1 E.2.1 dX9_readClause_131 (by decide) ?_
              refine lv_icmp_ne (tgt := 159) E.1 E.2.1 dX9_readClause_133 (by decide) (fun _ => ?_) (fun h => absurd h (by decide))
              refine lv_aload_n E.1 E.2.1 dX9_readClause_159 rfl (lv_at hl 3 rfl) ?_
              refine t_get E G 9 0 (rfl : ro 3 = 9) (C := RX9) (T := TX9) (N := 3) rfl (by decide) (by decide) (by decide) mw_fl_9_12 (fvl_d rfl) dX9_readClause_160 ?_
              rw [h250]
              refine t_get E G 7 2 (at_ro (i := 0) aqq1 (by decide) : ro qq1 = 7) (C := RX7) (T := TX7) (N := 7) rfl (by decide) (by decide) (by decide) mw_fl_9_39 (fvl_i rfl) dX9_readClause_163 ?_
              refine m_ci v254 e255.symm ?_
              refine lv_if_ne (tgt := 178) E.1 E.2.1 dX9_readClause_166 (by decide) (fun _ => ?_) (fun h => absurd h c256)
              exact RET G ⟨oo245, kk249⟩ dX9_readClause_178
            · skip
              have b258 : iv 0 0 v254 := iv_eq c256 (iv_lit (lo := 0) (hi := 0) 0 (by decide) (by decide))
              have h259 : iv 0 7 (tA zz242 4 0) := f2_iv F251 b235 b240 e255.symm c256
              refine lv_aload_n E.1 E.2.1 dX9_readClause_105 rfl (lv_at hl 3 rfl) ?_
              refine lv_iload E.1 E.2.1 dX9_readClause_106 (lv_at hl 0 rfl) ?_
              refine lv_iload_n E.1 E.2.1 dX9_readClause_108 rfl (lv_at hl 2 rfl) ?_
              refine lv_iload E.1 E.2.1 dX9_readClause_109 (lv_at hl 0 rfl) ?_
              refine t_si E G hl (tr_least_18_1 l D K ad zz242 oo245) 2 rfl mw_code_X9_leastOf mw_ini_9 mw_ml_9_59 mw_stat_X9_leastOf hd_X9_leastOf ⟨Nat.le_trans (by decide) hfr, Nat.le_trans (by decide) hlo⟩ rfl rfl rfl (Nat.le_of_ble_eq_true rfl) dX9_readClause_111 (fun r261 zz260 H locs hp262 G => ?_)
              obtain ⟨hz264, b263⟩ := hp262
              rw [hz264] at G
              refine lv_aload_n E.1 E.2.1 dX9_readClause_114 rfl (lv_at hl 3 rfl) ?_
              refine lv_iload_n E.1 E.2.1 dX9_readClause_115 rfl (lv_at hl 2 rfl) ?_
              refine lv_iload E.1 E.2.1 dX9_readClause_116 (lv_at hl 0 rfl) ?_
              refine t_vi E G hl (tr_most_18_1 l D K ad zz242 oo245) 9 (rfl : ro 3 = 9) (by decide) rfl rfl 2 rfl mw_code_X9_mostOf mw_ini_9 mw_ml_9_63 mw_inst_X9_mostOf mw_sel_X9_mostOf hd_X9_mostOf ⟨Nat.le_trans (by decide) hfr, Nat.le_trans (by decide) hlo⟩ rfl rfl rfl (Nat.le_of_ble_eq_true rfl) dX9_readClause_118 (fun r266 zz265 H locs hp267 G => ?_)
              obtain ⟨hz269, b268⟩ := hp267
              rw [hz269] at G
              refine t_vv E G hl (tr_num_1 l D K ad zz242 oo245 r261 (iv_mono b263 (by decide) (by decide)) r266 (iv_mono b268 (by decide) (by decide))) 9 (rfl : ro 3 = 9) (by decide) rfl rfl 3 rfl mw_code_X9_readNumber mw_ini_9 mw_ml_9_66 mw_inst_X9_readNumber mw_sel_X9_readNumber hd_X9_readNumber ⟨Nat.le_trans (by decide) hfr, Nat.le_trans (by decide) hlo⟩ rfl rfl rfl (Nat.le_of_ble_eq_true rfl) dX9_readClause_121 (fun zz270 H locs hp272 G => ?_)
              obtain ⟨oo273, kk274, h275, h276⟩ := hp272
              have kk277 : KC z zz270 := KC.tr kk249 (KN.c kk274)
              have h278 : tP zz270 3 0 = qq1 := KF.p kk274 h250
              have F279 := h276
              rw [← kk274.2.2.2, h278] at F279
              have h280 : iv 0 7 (tA zz270 4 0) := by rw [h275 0 (by decide)]; exact h259
              have h281 := hn_keep oo245 kk274 h252
              refine lv_iinc (v := 2) (lv' := [(4, .int 2), (3, .int 4), (2, .int 18), (0, .ref (ad 3)), (1, .int x1)]) E.1 E.2.1 dX9_readClause_124 hl (k := 0) rfl (by decide) (by decide) rfl (fun ls hl => ?_)
              refine lv_goto (tgt := 89) E.1 E.2.1 dX9_readClause_127 (by decide) ?_
              refine lv_iload E.1 E.2.1 dX9_readClause_89 (lv_at hl 0 rfl) ?_
              refine lv_iload_n E.1 E.2.1 dX9_readClause_91 rfl (lv_at hl 1 rfl) ?_
              refine lv_icmp_ge (tgt := 130) E.1 E.2.1 dX9_readClause_92 (by decide) (fun h => absurd h (by decide)) (fun _ => ?_)
              refine lv_aload_n E.1 E.2.1 dX9_readClause_95 rfl (lv_at hl 3 rfl) ?_
              refine t_get E G 9 0 (rfl : ro 3 = 9) (C := RX9) (T := TX9) (N := 3) rfl (by decide) (by decide) (by decide) mw_fl_9_12 (fvl_d rfl) dX9_readClause_96 ?_
              rw [h278]
              refine t_get E G 7 2 (at_ro (i := 0) aqq1 (by decide) : ro qq1 = 7) (C := RX7) (T := TX7) (N := 7) rfl (by decide) (by decide) (by decide) mw_fl_9_39 (fvl_i rfl) dX9_readClause_99 ?_
              refine lv_topi (fun v283 e284 => ?_)
              refine lv_if_ne (tgt := 130) E.1 E.2.1 dX9_readClause_102 (by decide) (fun c285 => ?_) (fun c285 => ?_)
              · skip
                refine lv_iload_n E.1 E.2.1 dX9_readClause_130 rfl (lv_at hl 2 rfl) ?_
                refine lv_bipush (v := 17) E.1 E.2.1 dX9_readClause_131 (by decide) ?_
                refine lv_icmp_ne (tgt := 159) E.1 E.2.1 dX9_readClause_133 (by decide) (fun _ => ?_) (fun h => absurd h (by decide))
                refine lv_aload_n E.1 E.2.1 dX9_readClause_159 rfl (lv_at hl 3 rfl) ?_
                refine t_get E G 9 0 (rfl : ro 3 = 9) (C := RX9) (T := TX9) (N := 3) rfl (by decide) (by decide) (by decide) mw_fl_9_12 (fvl_d rfl) dX9_readClause_160 ?_
                rw [h278]
                refine t_get E G 7 2 (at_ro (i := 0) aqq1 (by decide) : ro qq1 = 7) (C := RX7) (T := TX7) (N := 7) rfl (by decide) (by decide) (by decide) mw_fl_9_39 (fvl_i rfl) dX9_readClause_163 ?_
                refine m_ci v283 e284.symm ?_
                refine lv_if_ne (tgt := 178) E.1 E.2.1 dX9_readClause_166 (by decide) (fun _ => ?_) (fun h => absurd h c285)
                exact RET G ⟨oo273, kk277⟩ dX9_readClause_178
              · skip
                have b287 : iv 0 0 v283 := iv_eq c285 (iv_lit (lo := 0) (hi := 0) 0 (by decide) (by decide))
                have h288 : iv 0 7 (tA zz270 4 1) := f2_iv F279 b263 b268 e284.symm c285
                refine lv_aload_n E.1 E.2.1 dX9_readClause_105 rfl (lv_at hl 3 rfl) ?_
                refine lv_iload E.1 E.2.1 dX9_readClause_106 (lv_at hl 0 rfl) ?_
                refine lv_iload_n E.1 E.2.1 dX9_readClause_108 rfl (lv_at hl 2 rfl) ?_
                refine lv_iload E.1 E.2.1 dX9_readClause_109 (lv_at hl 0 rfl) ?_
                refine t_si E G hl (tr_least_18_2 l D K ad zz270 oo273) 2 rfl mw_code_X9_leastOf mw_ini_9 mw_ml_9_59 mw_stat_X9_leastOf hd_X9_leastOf ⟨Nat.le_trans (by decide) hfr, Nat.le_trans (by decide) hlo⟩ rfl rfl rfl (Nat.le_of_ble_eq_true rfl) dX9_readClause_111 (fun r290 zz289 H locs hp291 G => ?_)
                obtain ⟨hz293, b292⟩ := hp291
                rw [hz293] at G
                refine lv_aload_n E.1 E.2.1 dX9_readClause_114 rfl (lv_at hl 3 rfl) ?_
                refine lv_iload_n E.1 E.2.1 dX9_readClause_115 rfl (lv_at hl 2 rfl) ?_
                refine lv_iload E.1 E.2.1 dX9_readClause_116 (lv_at hl 0 rfl) ?_
                refine t_vi E G hl (tr_most_18_2 l D K ad zz270 oo273) 9 (rfl : ro 3 = 9) (by decide) rfl rfl 2 rfl mw_code_X9_mostOf mw_ini_9 mw_ml_9_63 mw_inst_X9_mostOf mw_sel_X9_mostOf hd_X9_mostOf ⟨Nat.le_trans (by decide) hfr, Nat.le_trans (by decide) hlo⟩ rfl rfl rfl (Nat.le_of_ble_eq_true rfl) dX9_readClause_118 (fun r295 zz294 H locs hp296 G => ?_)
                obtain ⟨hz298, b297⟩ := hp296
                rw [hz298] at G
                refine t_vv E G hl (tr_num_2 l D K ad zz270 oo273 r290 (iv_mono b292 (by decide) (by decide)) r295 (iv_mono b297 (by decide) (by decide))) 9 (rfl : ro 3 = 9) (by decide) rfl rfl 3 rfl mw_code_X9_readNumber mw_ini_9 mw_ml_9_66 mw_inst_X9_readNumber mw_sel_X9_readNumber hd_X9_readNumber ⟨Nat.le_trans (by decide) hfr, Nat.le_trans (by decide) hlo⟩ rfl rfl rfl (Nat.le_of_ble_eq_true rfl) dX9_readClause_121 (fun zz299 H locs hp301 G => ?_)
                obtain ⟨oo302, kk303, h304, h305⟩ := hp301
                have kk306 : KC z zz299 := KC.tr kk277 (KN.c kk303)
                have h307 : tP zz299 3 0 = qq1 := KF.p kk303 h278
                have F308 := h305
                rw [← kk303.2.2.2, h307] at F308
                have h309 : iv 0 7 (tA zz299 4 0) := by rw [h304 0 (by decide)]; exact h280
                have h310 : iv 0 7 (tA zz299 4 1) := by rw [h304 1 (by decide)]; exact h288
                have h311 := hn_keep oo273 kk303 h281
                refine lv_iinc (v := 3) (lv' := [(4, .int 3), (3, .int 4), (2, .int 18), (0, .ref (ad 3)), (1, .int x1)]) E.1 E.2.1 dX9_readClause_124 hl (k := 0) rfl (by decide) (by decide) rfl (fun ls hl => ?_)
                refine lv_goto (tgt := 89) E.1 E.2.1 dX9_readClause_127 (by decide) ?_
                refine lv_iload E.1 E.2.1 dX9_readClause_89 (lv_at hl 0 rfl) ?_
                refine lv_iload_n E.1 E.2.1 dX9_readClause_91 rfl (lv_at hl 1 rfl) ?_
                refine lv_icmp_ge (tgt := 130) E.1 E.2.1 dX9_readClause_92 (by decide) (fun h => absurd h (by decide)) (fun _ => ?_)
                refine lv_aload_n E.1 E.2.1 dX9_readClause_95 rfl (lv_at hl 3 rfl) ?_
                refine t_get E G 9 0 (rfl : ro 3 = 9) (C := RX9) (T := TX9) (N := 3) rfl (by decide) (by decide) (by decide) mw_fl_9_12 (fvl_d rfl) dX9_readClause_96 ?_
                rw [h307]
                refine t_get E G 7 2 (at_ro (i := 0) aqq1 (by decide) : ro qq1 = 7) (C := RX7) (T := TX7) (N := 7) rfl (by decide) (by decide) (by decide) mw_fl_9_39 (fvl_i rfl) dX9_readClause_99 ?_
                refine lv_topi (fun v313 e314 => ?_)
                refine lv_if_ne (tgt := 130) E.1 E.2.1 dX9_readClause_102 (by decide) (fun c315 => ?_) (fun c315 => ?_)
                · skip
                  refine lv_iload_n E.1 E.2.1 dX9_readClause_130 rfl (lv_at hl 2 rfl) ?_
                  refine lv_bipush (v := 17) E.1 E.2.1 dX9_readClause_131 (by decide) ?_
                  refine lv_icmp_ne (tgt := 159) E.1 E.2.1 dX9_readClause_133 (by decide) (fun _ => ?_) (fun h => absurd h (by decide))
                  refine lv_aload_n E.1 E.2.1 dX9_readClause_159 rfl (lv_at hl 3 rfl) ?_
                  refine t_get E G 9 0 (rfl : ro 3 = 9) (C := RX9) (T := TX9) (N := 3) rfl (by decide) (by decide) (by decide) mw_fl_9_12 (fvl_d rfl) dX9_readClause_160 ?_
                  rw [h307]
                  refine t_get E G 7 2 (at_ro (i := 0) aqq1 (by decide) : ro qq1 = 7) (C := RX7) (T := TX7) (N := 7) rfl (by decide) (by decide) (by decide) mw_fl_9_39 (fvl_i rfl) dX9_readClause_163 ?_
                  refine m_ci v313 e314.symm ?_
                  refine lv_if_ne (tgt := 178) E.1 E.2.1 dX9_readClause_166 (by decide) (fun _ => ?_) (fun h => absurd h c315)
                  exact RET G ⟨oo302, kk306⟩ dX9_readClause_178
                · skip
                  have b317 : iv 0 0 v313 := iv_eq c315 (iv_lit (lo := 0) (hi := 0) 0 (by decide) (by decide))
                  have h318 : iv 1 9 (tA zz299 4 2) := f2_iv F308 b292 b297 e314.symm c315
                  refine lv_aload_n E.1 E.2.1 dX9_readClause_105 rfl (lv_at hl 3 rfl) ?_
                  refine lv_iload E.1 E.2.1 dX9_readClause_106 (lv_at hl 0 rfl) ?_
                  refine lv_iload_n E.1 E.2.1 dX9_readClause_108 rfl (lv_at hl 2 rfl) ?_
                  refine lv_iload E.1 E.2.1 dX9_readClause_109 (lv_at hl 0 rfl) ?_
                  refine t_si E G hl (tr_least_18_3 l D K ad zz299 oo302) 2 rfl mw_code_X9_leastOf mw_ini_9 mw_ml_9_59 mw_stat_X9_leastOf hd_X9_leastOf ⟨Nat.le_trans (by decide) hfr, Nat.le_trans (by decide) hlo⟩ rfl rfl rfl (Nat.le_of_ble_eq_true rfl) dX9_readClause_111 (fun r320 zz319 H locs hp321 G => ?_)
                  obtain ⟨hz323, b322⟩ := hp321
                  rw [hz323] at G
                  refine lv_aload_n E.1 E.2.1 dX9_readClause_114 rfl (lv_at hl 3 rfl) ?_
                  refine lv_iload_n E.1 E.2.1 dX9_readClause_115 rfl (lv_at hl 2 rfl) ?_
                  refine lv_iload E.1 E.2.1 dX9_readClause_116 (lv_at hl 0 rfl) ?_
                  refine t_vi E G hl (tr_most_18_3 l D K ad zz299 oo302) 9 (rfl : ro 3 = 9) (by decide) rfl rfl 2 rfl mw_code_X9_mostOf mw_ini_9 mw_ml_9_63 mw_inst_X9_mostOf mw_sel_X9_mostOf hd_X9_mostOf ⟨Nat.le_trans (by decide) hfr, Nat.le_trans (by decide) hlo⟩ rfl rfl rfl (Nat.le_of_ble_eq_true rfl) dX9_readClause_118 (fun r325 zz324 H locs hp326 G => ?_)
                  obtain ⟨hz328, b327⟩ := hp326
                  rw [hz328] at G
                  refine t_vv E G hl (tr_num_3 l D K ad zz299 oo302 r320 (iv_mono b322 (by decide) (by decide)) r325 (iv_mono b327 (by decide) (by decide))) 9 (rfl : ro 3 = 9) (by decide) rfl rfl 3 rfl mw_code_X9_readNumber mw_ini_9 mw_ml_9_66 mw_inst_X9_readNumber mw_sel_X9_readNumber hd_X9_readNumber ⟨Nat.le_trans (by decide) hfr, Nat.le_trans (by decide) hlo⟩ rfl rfl rfl (Nat.le_of_ble_eq_true rfl) dX9_readClause_121 (fun zz329 H locs hp331 G => ?_)
                  obtain ⟨oo332, kk333, h334, h335⟩ := hp331
                  have kk336 : KC z zz329 := KC.tr kk306 (KN.c kk333)
                  have h337 : tP zz329 3 0 = qq1 := KF.p kk333 h307
                  have F338 := h335
                  rw [← kk333.2.2.2, h337] at F338
                  have h339 : iv 0 7 (tA zz329 4 0) := by rw [h334 0 (by decide)]; exact h309
                  have h340 : iv 0 7 (tA zz329 4 1) := by rw [h334 1 (by decide)]; exact h310
                  have h341 : iv 1 9 (tA zz329 4 2) := by rw [h334 2 (by decide)]; exact h318
                  have h342 := hn_keep oo302 kk333 h311
                  refine lv_iinc (v := 4) (lv' := [(4, .int 4), (3, .int 4), (2, .int 18), (0, .ref (ad 3)), (1, .int x1)]) E.1 E.2.1 dX9_readClause_124 hl (k := 0) rfl (by decide) (by decide) rfl (fun ls hl => ?_)
                  refine lv_goto (tgt := 89) E.1 E.2.1 dX9_readClause_127 (by decide) ?_
                  refine lv_iload E.1 E.2.1 dX9_readClause_89 (lv_at hl 0 rfl) ?_
                  refine lv_iload_n E.1 E.2.1 dX9_readClause_91 rfl (lv_at hl 1 rfl) ?_
                  refine lv_icmp_ge (tgt := 130) E.1 E.2.1 dX9_readClause_92 (by decide) (fun _ => ?_) (fun h => absurd (by decide) h)
                  refine lv_iload_n E.1 E.2.1 dX9_readClause_130 rfl (lv_at hl 2 rfl) ?_
                  refine lv_bipush (v := 17) E.1 E.2.1 dX9_readClause_131 (by decide) ?_
                  refine lv_icmp_ne (tgt := 159) E.1 E.2.1 dX9_readClause_133 (by decide) (fun _ => ?_) (fun h => absurd h (by decide))
                  refine lv_aload_n E.1 E.2.1 dX9_readClause_159 rfl (lv_at hl 3 rfl) ?_
                  refine t_get E G 9 0 (rfl : ro 3 = 9) (C := RX9) (T := TX9) (N := 3) rfl (by decide) (by decide) (by decide) mw_fl_9_12 (fvl_d rfl) dX9_readClause_160 ?_
                  rw [h337]
                  refine t_get E G 7 2 (at_ro (i := 0) aqq1 (by decide) : ro qq1 = 7) (C := RX7) (T := TX7) (N := 7) rfl (by decide) (by decide) (by decide) mw_fl_9_39 (fvl_i rfl) dX9_readClause_163 ?_
                  refine lv_topi (fun v344 e345 => ?_)
                  refine lv_if_ne (tgt := 178) E.1 E.2.1 dX9_readClause_166 (by decide) (fun c346 => ?_) (fun c346 => ?_)
                  · skip
                    exact RET G ⟨oo332, kk336⟩ dX9_readClause_178
                  · skip
                    have b347 : iv 0 0 v344 := iv_eq c346 (iv_lit (lo := 0) (hi := 0) 0 (by decide) (by decide))
                    have h348 : iv 1 20 (tA zz329 4 3) := f2_iv F338 b322 b327 e345.symm c346
                    refine lv_aload_n E.1 E.2.1 dX9_readClause_169 rfl (lv_at hl 3 rfl) ?_
                    refine lv_iload_n E.1 E.2.1 dX9_readClause_170 rfl (lv_at hl 2 rfl) ?_
                    refine t_vv E G hl (tr_tell_18 l D K ad zz329 oo332 h342) 9 (rfl : ro 3 = 9) (by decide) rfl rfl 1 rfl mw_code_X9_tellTown mw_ini_9 mw_ml_9_70 mw_inst_X9_tellTown mw_sel_X9_tellTown hd_X9_tellTown ⟨Nat.le_trans (by decide) hfr, Nat.le_trans (by decide) hlo⟩ rfl rfl rfl (Nat.le_of_ble_eq_true rfl) dX9_readClause_171 (fun zz349 H locs hp351 G => ?_)
                    obtain ⟨oo352, kk353⟩ := hp351
                    have kk354 : KC z zz349 := KC.tr kk336 kk353
                    refine lv_aload_n E.1 E.2.1 dX9_readClause_174 rfl (lv_at hl 3 rfl) ?_
                    refine t_vv E G hl (tr_clauseEnd l D K ad zz349 oo352) 9 (rfl : ro 3 = 9) (by decide) rfl rfl 0 rfl mw_code_X9_readClauseEnd mw_ini_9 mw_ml_9_73 mw_inst_X9_readClauseEnd mw_sel_X9_readClauseEnd hd_X9_readClauseEnd ⟨Nat.le_trans (by decide) hfr, Nat.le_trans (by decide) hlo⟩ rfl rfl rfl (Nat.le_of_ble_eq_true rfl) dX9_readClause_175 (fun zz355 H locs hp357 G => ?_)
                    obtain ⟨oo358, kk359⟩ := hp357
                    have kk360 : KC z zz355 := KC.tr kk354 kk359
                    exact RET G ⟨oo358, kk360⟩ dX9_readClause_178
        · skip
          have b361 : iv 1 1 r218 := ne_lo c223 b220 (by decide) (by decide)
          refine lv_aload_n E.1 E.2.1 dX9_readClause_55 rfl (lv_at hl 1 rfl) ?_
          refine t_get E G 9 0 (rfl : ro 3 = 9) (C := RX9) (T := TX9) (N := 3) rfl (by decide) (by decide) (by decide) mw_fl_9_12 (fvl_d rfl) dX9_readClause_56 ?_
          rw [h8]
          refine lv_iconst (v := 4) E.1 E.2.1 dX9_readClause_59 (by decide) ?_
          refine t_vv E G hl (tp_blame_z l D K ad zz2 oo5 qq1 aqq1 (4 : Int32) (iv_mono (iv_lit (lo := 4) (hi := 4) 4 (by decide) (by decide)) (by decide) (by decide))) 7 (at_ro (i := 0) aqq1 (by decide) : ro qq1 = 7) (by decide) rfl rfl 1 rfl mw_code_X7_blame mw_ini_7 mw_ml_9_52 mw_inst_X7_blame mw_sel_X7_blame hd_X7_blame ⟨Nat.le_trans (by decide) hfr, Nat.le_trans (by decide) hlo⟩ rfl rfl rfl (Nat.le_of_ble_eq_true rfl) dX9_readClause_60 (fun zz363 H locs hp365 G => ?_)
          obtain ⟨oo366, kk367, h368⟩ := hp365
          have kk369 : KC z zz363 := KC.tr kk7 (KT.c kk367)
          have h370 : tP zz363 3 0 = qq1 := KF.p kk367 h8
          exact RET G ⟨oo366, kk369⟩ dX9_readClause_63
      · skip
        refine lv_iload_n E.1 E.2.1 dX9_readClause_33 rfl (lv_at hl 0 rfl) ?_
        refine lv_if_eq (tgt := 46) E.1 E.2.1 dX9_readClause_34 (by decide) (fun c371 => ?_) (fun c371 => ?_)
        · skip
          subst c371
          refine lv_aload_n E.1 E.2.1 dX9_readClause_46 rfl (lv_at hl 1 rfl) ?_
          refine lv_iload_n E.1 E.2.1 dX9_readClause_47 rfl (lv_at hl 0 rfl) ?_
          refine lv_iload_n E.1 E.2.1 dX9_readClause_48 rfl (lv_at hl 2 rfl) ?_
          refine t_vi E G hl (tr_many_0 l D K ad zz2 oo5 x1 (iv_mono bx1 (by decide) (by decide))) 9 (rfl : ro 3 = 9) (by decide) rfl rfl 2 rfl mw_code_X9_isTooMany mw_ini_9 mw_ml_9_55 mw_inst_X9_isTooMany mw_sel_X9_isTooMany hd_X9_isTooMany ⟨Nat.le_trans (by decide) hfr, Nat.le_trans (by decide) hlo⟩ rfl rfl rfl (Nat.le_of_ble_eq_true rfl) dX9_readClause_49 (fun r373 zz372 H locs hp374 G => ?_)
          obtain ⟨hz377, b375, h376⟩ := hp374
          rw [hz377] at G
          refine lv_if_eq (tgt := 64) E.1 E.2.1 dX9_readClause_52 (by decide) (fun c378 => ?_) (fun c378 => ?_)
          · skip
            have b379 : iv 0 0 r373 := iv_eq c378 (iv_lit (lo := 0) (hi := 0) 0 (by decide) (by decide))
            have h380 := h376 c378
            refine lv_iload_n E.1 E.2.1 dX9_readClause_64 rfl (lv_at hl 0 rfl) ?_
            refine lv_bipush (v := 16) E.1 E.2.1 dX9_readClause_65 (by decide) ?_
            refine lv_icmp_ne (tgt := 74) E.1 E.2.1 dX9_readClause_67 (by decide) (fun _ => ?_) (fun h => absurd h (by decide))
            refine lv_iload_n E.1 E.2.1 dX9_readClause_74 rfl (lv_at hl 0 rfl) ?_
            refine lv_bipush (v := 17) E.1 E.2.1 dX9_readClause_75 (by decide) ?_
            refine lv_icmp_ne (tgt := 84) E.1 E.2.1 dX9_readClause_77 (by decide) (fun _ => ?_) (fun h => absurd h (by decide))
            refine lv_iconst (v := 4) E.1 E.2.1 dX9_readClause_84 (by decide) ?_
            refine lv_istore_n (lv' := [(3, .int 4), (2, .int 0), (0, .ref (ad 3)), (1, .int x1)]) E.1 E.2.1 dX9_readClause_85 rfl hl (by decide) rfl (fun ls hl => ?_)
            refine lv_iconst (v := 0) E.1 E.2.1 dX9_readClause_86 (by decide) ?_
            refine lv_istore (lv' := [(4, .int 0), (3, .int 4), (2, .int 0), (0, .ref (ad 3)), (1, .int x1)]) E.1 E.2.1 dX9_readClause_87 hl (by decide) rfl (fun ls hl => ?_)
            refine lv_iload E.1 E.2.1 dX9_readClause_89 (lv_at hl 0 rfl) ?_
            refine lv_iload_n E.1 E.2.1 dX9_readClause_91 rfl (lv_at hl 1 rfl) ?_
            refine lv_icmp_ge (tgt := 130) E.1 E.2.1 dX9_readClause_92 (by decide) (fun h => absurd h (by decide)) (fun _ => ?_)
            refine lv_aload_n E.1 E.2.1 dX9_readClause_95 rfl (lv_at hl 3 rfl) ?_
            refine t_get E G 9 0 (rfl : ro 3 = 9) (C := RX9) (T := TX9) (N := 3) rfl (by decide) (by decide) (by decide) mw_fl_9_12 (fvl_d rfl) dX9_readClause_96 ?_
            rw [h8]
            refine t_get E G 7 2 (at_ro (i := 0) aqq1 (by decide) : ro qq1 = 7) (C := RX7) (T := TX7) (N := 7) rfl (by decide) (by decide) (by decide) mw_fl_9_39 (fvl_i rfl) dX9_readClause_99 ?_
            refine lv_topi (fun v382 e383 => ?_)
            refine lv_if_ne (tgt := 130) E.1 E.2.1 dX9_readClause_102 (by decide) (fun c384 => ?_) (fun c384 => ?_)
            · skip
              refine lv_iload_n E.1 E.2.1 dX9_readClause_130 rfl (lv_at hl 2 rfl) ?_
              refine lv_bipush (v := 17) E.1 E.2.1 dX9_readClause_131 (by decide) ?_
              refine lv_icmp_ne (tgt := 159) E.1 E.2.1 dX9_readClause_133 (by decide) (fun _ => ?_) (fun h => absurd h (by decide))
              refine lv_aload_n E.1 E.2.1 dX9_readClause_159 rfl (lv_at hl 3 rfl) ?_
              refine t_get E G 9 0 (rfl : ro 3 = 9) (C := RX9) (T := TX9) (N := 3) rfl (by decide) (by decide) (by decide) mw_fl_9_12 (fvl_d rfl) dX9_readClause_160 ?_
              rw [h8]
              refine t_get E G 7 2 (at_ro (i := 0) aqq1 (by decide) : ro qq1 = 7) (C := RX7) (T := TX7) (N := 7) rfl (by decide) (by decide) (by decide) mw_fl_9_39 (fvl_i rfl) dX9_readClause_163 ?_
              refine m_ci v382 e383.symm ?_
              refine lv_if_ne (tgt := 178) E.1 E.2.1 dX9_readClause_166 (by decide) (fun _ => ?_) (fun h => absurd h c384)
              exact RET G ⟨oo5, kk7⟩ dX9_readClause_178
            · skip
              have b386 : iv 0 0 v382 := iv_eq c384 (iv_lit (lo := 0) (hi := 0) 0 (by decide) (by decide))
              refine lv_aload_n E.1 E.2.1 dX9_readClause_105 rfl (lv_at hl 3 rfl) ?_
              refine lv_iload E.1 E.2.1 dX9_readClause_106 (lv_at hl 0 rfl) ?_
              refine lv_iload_n E.1 E.2.1 dX9_readClause_108 rfl (lv_at hl 2 rfl) ?_
              refine lv_iload E.1 E.2.1 dX9_readClause_109 (lv_at hl 0 rfl) ?_
              refine t_si E G hl (tr_least_0_0 l D K ad zz2 oo5) 2 rfl mw_code_X9_leastOf mw_ini_9 mw_ml_9_59 mw_stat_X9_leastOf hd_X9_leastOf ⟨Nat.le_trans (by decide) hfr, Nat.le_trans (by decide) hlo⟩ rfl rfl rfl (Nat.le_of_ble_eq_true rfl) dX9_readClause_111 (fun r388 zz387 H locs hp389 G => ?_)
              obtain ⟨hz391, b390⟩ := hp389
              rw [hz391] at G
              refine lv_aload_n E.1 E.2.1 dX9_readClause_114 rfl (lv_at hl 3 rfl) ?_
              refine lv_iload_n E.1 E.2.1 dX9_readClause_115 rfl (lv_at hl 2 rfl) ?_
              refine lv_iload E.1 E.2.1 dX9_readClause_116 (lv_at hl 0 rfl) ?_
              refine t_vi E G hl (tr_most_0_0 l D K ad zz2 oo5) 9 (rfl : ro 3 = 9) (by decide) rfl rfl 2 rfl mw_code_X9_mostOf mw_ini_9 mw_ml_9_63 mw_inst_X9_mostOf mw_sel_X9_mostOf hd_X9_mostOf ⟨Nat.le_trans (by decide) hfr, Nat.le_trans (by decide) hlo⟩ rfl rfl rfl (Nat.le_of_ble_eq_true rfl) dX9_readClause_118 (fun r393 zz392 H locs hp394 G => ?_)
              obtain ⟨hz396, b395⟩ := hp394
              rw [hz396] at G
              refine t_vv E G hl (tr_num_0 l D K ad zz2 oo5 r388 (iv_mono b390 (by decide) (by decide)) r393 (iv_mono b395 (by decide) (by decide))) 9 (rfl : ro 3 = 9) (by decide) rfl rfl 3 rfl mw_code_X9_readNumber mw_ini_9 mw_ml_9_66 mw_inst_X9_readNumber mw_sel_X9_readNumber hd_X9_readNumber ⟨Nat.le_trans (by decide) hfr, Nat.le_trans (by decide) hlo⟩ rfl rfl rfl (Nat.le_of_ble_eq_true rfl) dX9_readClause_121 (fun zz397 H locs hp399 G => ?_)
              obtain ⟨oo400, kk401, h402, h403⟩ := hp399
              have kk404 : KC z zz397 := KC.tr kk7 (KN.c kk401)
              have h405 : tP zz397 3 0 = qq1 := KF.p kk401 h8
              have F406 := h403
              rw [← kk401.2.2.2, h405] at F406
              have h407 := hn_keep oo5 kk401 h380
              refine lv_iinc (v := 1) (lv' := [(4, .int 1), (3, .int 4), (2, .int 0), (0, .ref (ad 3)), (1, .int x1)]) E.1 E.2.1 dX9_readClause_124 hl (k := 0) rfl (by decide) (by decide) rfl (fun ls hl => ?_)
              refine lv_goto (tgt := 89) E.1 E.2.1 dX9_readClause_127 (by decide) ?_
              refine lv_iload E.1 E.2.1 dX9_readClause_89 (lv_at hl 0 rfl) ?_
              refine lv_iload_n E.1 E.2.1 dX9_readClause_91 rfl (lv_at hl 1 rfl) ?_
              refine lv_icmp_ge (tgt := 130) E.1 E.2.1 dX9_readClause_92 (by decide) (fun h => absurd h (by decide)) (fun _ => ?_)
              refine lv_aload_n E.1 E.2.1 dX9_readClause_95 rfl (lv_at hl 3 rfl) ?_
              refine t_get E G 9 0 (rfl : ro 3 = 9) (C := RX9) (T := TX9) (N := 3) rfl (by decide) (by decide) (by decide) mw_fl_9_12 (fvl_d rfl) dX9_readClause_96 ?_
              rw [h405]
              refine t_get E G 7 2 (at_ro (i := 0) aqq1 (by decide) : ro qq1 = 7) (C := RX7) (T := TX7) (N := 7) rfl (by decide) (by decide) (by decide) mw_fl_9_39 (fvl_i rfl) dX9_readClause_99 ?_
              refine lv_topi (fun v409 e410 => ?_)
              refine lv_if_ne (tgt := 130) E.1 E.2.1 dX9_readClause_102 (by decide) (fun c411 => ?_) (fun c411 => ?_)
              · skip
                refine lv_iload_n E.1 E.2.1 dX9_readClause_130 rfl (lv_at hl 2 rfl) ?_
                refine lv_bipush (v := 17) E.1 E.2.1 dX9_readClause_131 (by decide) ?_
                refine lv_icmp_ne (tgt := 159) E.1 E.2.1 dX9_readClause_133 (by decide) (fun _ => ?_) (fun h => absurd h (by decide))
                refine lv_aload_n E.1 E.2.1 dX9_readClause_159 rfl (lv_at hl 3 rfl) ?_
                refine t_get E G 9 0 (rfl : ro 3 = 9) (C := RX9) (T := TX9) (N := 3) rfl (by decide) (by decide) (by decide) mw_fl_9_12 (fvl_d rfl) dX9_readClause_160 ?_
                rw [h405]
                refine t_get E G 7 2 (at_ro (i := 0) aqq1 (by decide) : ro qq1 = 7) (C := RX7) (T := TX7) (N := 7) rfl (by decide) (by decide) (by decide) mw_fl_9_39 (fvl_i rfl) dX9_readClause_163 ?_
                refine m_ci v409 e410.symm ?_
                refine lv_if_ne (tgt := 178) E.1 E.2.1 dX9_readClause_166 (by decide) (fun _ => ?_) (fun h => absurd h c411)
                exact RET G ⟨oo400, kk404⟩ dX9_readClause_178
              · skip
                have b413 : iv 0 0 v409 := iv_eq c411 (iv_lit (lo := 0) (hi := 0) 0 (by decide) (by decide))
                have h414 : iv 0 7 (tA zz397 4 0) := f2_iv F406 b390 b395 e410.symm c411
                refine lv_aload_n E.1 E.2.1 dX9_readClause_105 rfl (lv_at hl 3 rfl) ?_
                refine lv_iload E.1 E.2.1 dX9_readClause_106 (lv_at hl 0 rfl) ?_
                refine lv_iload_n E.1 E.2.1 dX9_readClause_108 rfl (lv_at hl 2 rfl) ?_
                refine lv_iload E.1 E.2.1 dX9_readClause_109 (lv_at hl 0 rfl) ?_
                refine t_si E G hl (tr_least_0_1 l D K ad zz397 oo400) 2 rfl mw_code_X9_leastOf mw_ini_9 mw_ml_9_59 mw_stat_X9_leastOf hd_X9_leastOf ⟨Nat.le_trans (by decide) hfr, Nat.le_trans (by decide) hlo⟩ rfl rfl rfl (Nat.le_of_ble_eq_true rfl) dX9_readClause_111 (fun r416 zz415 H locs hp417 G => ?_)
                obtain ⟨hz419, b418⟩ := hp417
                rw [hz419] at G
                refine lv_aload_n E.1 E.2.1 dX9_readClause_114 rfl (lv_at hl 3 rfl) ?_
                refine lv_iload_n E.1 E.2.1 dX9_readClause_115 rfl (lv_at hl 2 rfl) ?_
                refine lv_iload E.1 E.2.1 dX9_readClause_116 (lv_at hl 0 rfl) ?_
                refine t_vi E G hl (tr_most_0_1 l D K ad zz397 oo400) 9 (rfl : ro 3 = 9) (by decide) rfl rfl 2 rfl mw_code_X9_mostOf mw_ini_9 mw_ml_9_63 mw_inst_X9_mostOf mw_sel_X9_mostOf hd_X9_mostOf ⟨Nat.le_trans (by decide) hfr, Nat.le_trans (by decide) hlo⟩ rfl rfl rfl (Nat.le_of_ble_eq_true rfl) dX9_readClause_118 (fun r421 zz420 H locs hp422 G => ?_)
                obtain ⟨hz424, b423⟩ := hp422
                rw [hz424] at G
                refine t_vv E G hl (tr_num_1 l D K ad zz397 oo400 r416 (iv_mono b418 (by decide) (by decide)) r421 (iv_mono b423 (by decide) (by decide))) 9 (rfl : ro 3 = 9) (by decide) rfl rfl 3 rfl mw_code_X9_readNumber mw_ini_9 mw_ml_9_66 mw_inst_X9_readNumber mw_sel_X9_readNumber hd_X9_readNumber ⟨Nat.le_trans (by decide) hfr, Nat.le_trans (by decide) hlo⟩ rfl rfl rfl (Nat.le_of_ble_eq_true rfl) dX9_readClause_121 (fun zz425 H locs hp427 G => ?_)
                obtain ⟨oo428, kk429, h430, h431⟩ := hp427
                have kk432 : KC z zz425 := KC.tr kk404 (KN.c kk429)
                have h433 : tP zz425 3 0 = qq1 := KF.p kk429 h405
                have F434 := h431
                rw [← kk429.2.2.2, h433] at F434
                have h435 : iv 0 7 (tA zz425 4 0) := by rw [h430 0 (by decide)]; exact h414
                have h436 := hn_keep oo400 kk429 h407
                refine lv_iinc (v := 2) (lv' := [(4, .int 2), (3, .int 4), (2, .int 0), (0, .ref (ad 3)), (1, .int x1)]) E.1 E.2.1 dX9_readClause_124 hl (k := 0) rfl (by decide) (by decide) rfl (fun ls hl => ?_)
                refine lv_goto (tgt := 89) E.1 E.2.1 dX9_readClause_127 (by decide) ?_
                refine lv_iload E.1 E.2.1 dX9_readClause_89 (lv_at hl 0 rfl) ?_
                refine lv_iload_n E.1 E.2.1 dX9_readClause_91 rfl (lv_at hl 1 rfl) ?_
                refine lv_icmp_ge (tgt := 130) E.1 E.2.1 dX9_readClause_92 (by decide) (fun h => absurd h (by decide)) (fun _ => ?_)
                refine lv_aload_n E.1 E.2.1 dX9_readClause_95 rfl (lv_at hl 3 rfl) ?_
                refine t_get E G 9 0 (rfl : ro 3 = 9) (C := RX9) (T := TX9) (N := 3) rfl (by decide) (by decide) (by decide) mw_fl_9_12 (fvl_d rfl) dX9_readClause_96 ?_
                rw [h433]
                refine t_get E G 7 2 (at_ro (i := 0) aqq1 (by decide) : ro qq1 = 7) (C := RX7) (T := TX7) (N := 7) rfl (by decide) (by decide) (by decide) mw_fl_9_39 (fvl_i rfl) dX9_readClause_99 ?_
                refine lv_topi (fun v438 e439 => ?_)
                refine lv_if_ne (tgt := 130) E.1 E.2.1 dX9_readClause_102 (by decide) (fun c440 => ?_) (fun c440 => ?_)
                · skip
                  refine lv_iload_n E.1 E.2.1 dX9_readClause_130 rfl (lv_at hl 2 rfl) ?_
                  refine lv_bipush (v := 17) E.1 E.2.1 dX9_readClause_131 (by decide) ?_
                  refine lv_icmp_ne (tgt := 159) E.1 E.2.1 dX9_readClause_133 (by decide) (fun _ => ?_) (fun h => absurd h (by decide))
                  refine lv_aload_n E.1 E.2.1 dX9_readClause_159 rfl (lv_at hl 3 rfl) ?_
                  refine t_get E G 9 0 (rfl : ro 3 = 9) (C := RX9) (T := TX9) (N := 3) rfl (by decide) (by decide) (by decide) mw_fl_9_12 (fvl_d rfl) dX9_readClause_160 ?_
                  rw [h433]
                  refine t_get E G 7 2 (at_ro (i := 0) aqq1 (by decide) : ro qq1 = 7) (C := RX7) (T := TX7) (N := 7) rfl (by decide) (by decide) (by decide) mw_fl_9_39 (fvl_i rfl) dX9_readClause_163 ?_
                  refine m_ci v438 e439.symm ?_
                  refine lv_if_ne (tgt := 178) E.1 E.2.1 dX9_readClause_166 (by decide) (fun _ => ?_) (fun h => absurd h c440)
                  exact RET G ⟨oo428, kk432⟩ dX9_readClause_178
                · skip
                  have b442 : iv 0 0 v438 := iv_eq c440 (iv_lit (lo := 0) (hi := 0) 0 (by decide) (by decide))
                  have h443 : iv 0 7 (tA zz425 4 1) := f2_iv F434 b418 b423 e439.symm c440
                  refine lv_aload_n E.1 E.2.1 dX9_readClause_105 rfl (lv_at hl 3 rfl) ?_
                  refine lv_iload E.1 E.2.1 dX9_readClause_106 (lv_at hl 0 rfl) ?_
                  refine lv_iload_n E.1 E.2.1 dX9_readClause_108 rfl (lv_at hl 2 rfl) ?_
                  refine lv_iload E.1 E.2.1 dX9_readClause_109 (lv_at hl 0 rfl) ?_
                  refine t_si E G hl (tr_least_0_2 l D K ad zz425 oo428) 2 rfl mw_code_X9_leastOf mw_ini_9 mw_ml_9_59 mw_stat_X9_leastOf hd_X9_leastOf ⟨Nat.le_trans (by decide) hfr, Nat.le_trans (by decide) hlo⟩ rfl rfl rfl (Nat.le_of_ble_eq_true rfl) dX9_readClause_111 (fun r445 zz444 H locs hp446 G => ?_)
                  obtain ⟨hz448, b447⟩ := hp446
                  rw [hz448] at G
                  refine lv_aload_n E.1 E.2.1 dX9_readClause_114 rfl (lv_at hl 3 rfl) ?_
                  refine lv_iload_n E.1 E.2.1 dX9_readClause_115 rfl (lv_at hl 2 rfl) ?_
                  refine lv_iload E.1 E.2.1 dX9_readClause_116 (lv_at hl 0 rfl) ?_
                  refine t_vi E G hl (tr_most_0_2 l D K ad zz425 oo428) 9 (rfl : ro 3 = 9) (by decide) rfl rfl 2 rfl mw_code_X9_mostOf mw_ini_9 mw_ml_9_63 mw_inst_X9_mostOf mw_sel_X9_mostOf hd_X9_mostOf ⟨Nat.le_trans (by decide) hfr, Nat.le_trans (by decide) hlo⟩ rfl rfl rfl (Nat.le_of_ble_eq_true rfl) dX9_readClause_118 (fun r450 zz449 H locs hp451 G => ?_)
                  obtain ⟨hz453, b452⟩ := hp451
                  rw [hz453] at G
                  refine t_vv E G hl (tr_num_2 l D K ad zz425 oo428 r445 (iv_mono b447 (by decide) (by decide)) r450 (iv_mono b452 (by decide) (by decide))) 9 (rfl : ro 3 = 9) (by decide) rfl rfl 3 rfl mw_code_X9_readNumber mw_ini_9 mw_ml_9_66 mw_inst_X9_readNumber mw_sel_X9_readNumber hd_X9_readNumber ⟨Nat.le_trans (by decide) hfr, Nat.le_trans (by decide) hlo⟩ rfl rfl rfl (Nat.le_of_ble_eq_true rfl) dX9_readClause_121 (fun zz454 H locs hp456 G => ?_)
                  obtain ⟨oo457, kk458, h459, h460⟩ := hp456
                  have kk461 : KC z zz454 := KC.tr kk432 (KN.c kk458)
                  have h462 : tP zz454 3 0 = qq1 := KF.p kk458 h433
                  have F463 := h460
                  rw [← kk458.2.2.2, h462] at F463
                  have h464 : iv 0 7 (tA zz454 4 0) := by rw [h459 0 (by decide)]; exact h435
                  have h465 : iv 0 7 (tA zz454 4 1) := by rw [h459 1 (by decide)]; exact h443
                  have h466 := hn_keep oo428 kk458 h436
                  refine lv_iinc (v := 3) (lv' := [(4, .int 3), (3, .int 4), (2, .int 0), (0, .ref (ad 3)), (1, .int x1)]) E.1 E.2.1 dX9_readClause_124 hl (k := 0) rfl (by decide) (by decide) rfl (fun ls hl => ?_)
                  refine lv_goto (tgt := 89) E.1 E.2.1 dX9_readClause_127 (by decide) ?_
                  refine lv_iload E.1 E.2.1 dX9_readClause_89 (lv_at hl 0 rfl) ?_
                  refine lv_iload_n E.1 E.2.1 dX9_readClause_91 rfl (lv_at hl 1 rfl) ?_
                  refine lv_icmp_ge (tgt := 130) E.1 E.2.1 dX9_readClause_92 (by decide) (fun h => absurd h (by decide)) (fun _ => ?_)
                  refine lv_aload_n E.1 E.2.1 dX9_readClause_95 rfl (lv_at hl 3 rfl) ?_
                  refine t_get E G 9 0 (rfl : ro 3 = 9) (C := RX9) (T := TX9) (N := 3) rfl (by decide) (by decide) (by decide) mw_fl_9_12 (fvl_d rfl) dX9_readClause_96 ?_
                  rw [h462]
                  refine t_get E G 7 2 (at_ro (i := 0) aqq1 (by decide) : ro qq1 = 7) (C := RX7) (T := TX7) (N := 7) rfl (by decide) (by decide) (by decide) mw_fl_9_39 (fvl_i rfl) dX9_readClause_99 ?_
                  refine lv_topi (fun v468 e469 => ?_)
                  refine lv_if_ne (tgt := 130) E.1 E.2.1 dX9_readClause_102 (by decide) (fun c470 => ?_) (fun c470 => ?_)
                  · skip
                    refine lv_iload_n E.1 E.2.1 dX9_readClause_130 rfl (lv_at hl 2 rfl) ?_
                    refine lv_bipush (v := 17) E.1 E.2.1 dX9_readClause_131 (by decide) ?_
                    refine lv_icmp_ne (tgt := 159) E.1 E.2.1 dX9_readClause_133 (by decide) (fun _ => ?_) (fun h => absurd h (by decide))
                    refine lv_aload_n E.1 E.2.1 dX9_readClause_159 rfl (lv_at hl 3 rfl) ?_
                    refine t_get E G 9 0 (rfl : ro 3 = 9) (C := RX9) (T := TX9) (N := 3) rfl (by decide) (by decide) (by decide) mw_fl_9_12 (fvl_d rfl) dX9_readClause_160 ?_
                    rw [h462]
                    refine t_get E G 7 2 (at_ro (i := 0) aqq1 (by decide) : ro qq1 = 7) (C := RX7) (T := TX7) (N := 7) rfl (by decide) (by decide) (by decide) mw_fl_9_39 (fvl_i rfl) dX9_readClause_163 ?_
                    refine m_ci v468 e469.symm ?_
                    refine lv_if_ne (tgt := 178) E.1 E.2.1 dX9_readClause_166 (by decide) (fun _ => ?_) (fun h => absurd h c470)
                    exact RET G ⟨oo457, kk461⟩ dX9_readClause_178
                  · skip
                    have b472 : iv 0 0 v468 := iv_eq c470 (iv_lit (lo := 0) (hi := 0) 0 (by decide) (by decide))
                    have h473 : iv 0 7 (tA zz454 4 2) := f2_iv F463 b447 b452 e469.symm c470
                    refine lv_aload_n E.1 E.2.1 dX9_readClause_105 rfl (lv_at hl 3 rfl) ?_
                    refine lv_iload E.1 E.2.1 dX9_readClause_106 (lv_at hl 0 rfl) ?_
                    refine lv_iload_n E.1 E.2.1 dX9_readClause_108 rfl (lv_at hl 2 rfl) ?_
                    refine lv_iload E.1 E.2.1 dX9_readClause_109 (lv_at hl 0 rfl) ?_
                    refine t_si E G hl (tr_least_0_3 l D K ad zz454 oo457) 2 rfl mw_code_X9_leastOf mw_ini_9 mw_ml_9_59 mw_stat_X9_leastOf hd_X9_leastOf ⟨Nat.le_trans (by decide) hfr, Nat.le_trans (by decide) hlo⟩ rfl rfl rfl (Nat.le_of_ble_eq_true rfl) dX9_readClause_111 (fun r475 zz474 H locs hp476 G => ?_)
                    obtain ⟨hz478, b477⟩ := hp476
                    rw [hz478] at G
                    refine lv_aload_n E.1 E.2.1 dX9_readClause_114 rfl (lv_at hl 3 rfl) ?_
                    refine lv_iload_n E.1 E.2.1 dX9_readClause_115 rfl (lv_at hl 2 rfl) ?_
                    refine lv_iload E.1 E.2.1 dX9_readClause_116 (lv_at hl 0 rfl) ?_
                    refine t_vi E G hl (tr_most_0_3 l D K ad zz454 oo457) 9 (rfl : ro 3 = 9) (by decide) rfl rfl 2 rfl mw_code_X9_mostOf mw_ini_9 mw_ml_9_63 mw_inst_X9_mostOf mw_sel_X9_mostOf hd_X9_mostOf ⟨Nat.le_trans (by decide) hfr, Nat.le_trans (by decide) hlo⟩ rfl rfl rfl (Nat.le_of_ble_eq_true rfl) dX9_readClause_118 (fun r480 zz479 H locs hp481 G => ?_)
                    obtain ⟨hz483, b482⟩ := hp481
                    rw [hz483] at G
                    refine t_vv E G hl (tr_num_3 l D K ad zz454 oo457 r475 (iv_mono b477 (by decide) (by decide)) r480 (iv_mono b482 (by decide) (by decide))) 9 (rfl : ro 3 = 9) (by decide) rfl rfl 3 rfl mw_code_X9_readNumber mw_ini_9 mw_ml_9_66 mw_inst_X9_readNumber mw_sel_X9_readNumber hd_X9_readNumber ⟨Nat.le_trans (by decide) hfr, Nat.le_trans (by decide) hlo⟩ rfl rfl rfl (Nat.le_of_ble_eq_true rfl) dX9_readClause_121 (fun zz484 H locs hp486 G => ?_)
                    obtain ⟨oo487, kk488, h489, h490⟩ := hp486
                    have kk491 : KC z zz484 := KC.tr kk461 (KN.c kk488)
                    have h492 : tP zz484 3 0 = qq1 := KF.p kk488 h462
                    have F493 := h490
                    rw [← kk488.2.2.2, h492] at F493
                    have h494 : iv 0 7 (tA zz484 4 0) := by rw [h489 0 (by decide)]; exact h464
                    have h495 : iv 0 7 (tA zz484 4 1) := by rw [h489 1 (by decide)]; exact h465
                    have h496 : iv 0 7 (tA zz484 4 2) := by rw [h489 2 (by decide)]; exact h473
                    have h497 := hn_keep oo457 kk488 h466
                    refine lv_iinc (v := 4) (lv' := [(4, .int 4), (3, .int 4), (2, .int 0), (0, .ref (ad 3)), (1, .int x1)]) E.1 E.2.1 dX9_readClause_124 hl (k := 0) rfl (by decide) (by decide) rfl (fun ls hl => ?_)
                    refine lv_goto (tgt := 89) E.1 E.2.1 dX9_readClause_127 (by decide) ?_
                    refine lv_iload E.1 E.2.1 dX9_readClause_89 (lv_at hl 0 rfl) ?_
                    refine lv_iload_n E.1 E.2.1 dX9_readClause_91 rfl (lv_at hl 1 rfl) ?_
                    refine lv_icmp_ge (tgt := 130) E.1 E.2.1 dX9_readClause_92 (by decide) (fun _ => ?_) (fun h => absurd (by decide) h)
                    refine lv_iload_n E.1 E.2.1 dX9_readClause_130 rfl (lv_at hl 2 rfl) ?_
                    refine lv_bipush (v := 17) E.1 E.2.1 dX9_readClause_131 (by decide) ?_
                    refine lv_icmp_ne (tgt := 159) E.1 E.2.1 dX9_readClause_133 (by decide) (fun _ => ?_) (fun h => absurd h (by decide))
                    refine lv_aload_n E.1 E.2.1 dX9_readClause_159 rfl (lv_at hl 3 rfl) ?_
                    refine t_get E G 9 0 (rfl : ro 3 = 9) (C := RX9) (T := TX9) (N := 3) rfl (by decide) (by decide) (by decide) mw_fl_9_12 (fvl_d rfl) dX9_readClause_160 ?_
                    rw [h492]
                    refine t_get E G 7 2 (at_ro (i := 0) aqq1 (by decide) : ro qq1 = 7) (C := RX7) (T := TX7) (N := 7) rfl (by decide) (by decide) (by decide) mw_fl_9_39 (fvl_i rfl) dX9_readClause_163 ?_
                    refine lv_topi (fun v499 e500 => ?_)
                    refine lv_if_ne (tgt := 178) E.1 E.2.1 dX9_readClause_166 (by decide) (fun c501 => ?_) (fun c501 => ?_)
                    · skip
                      exact RET G ⟨oo487, kk491⟩ dX9_readClause_178
                    · skip
                      have b502 : iv 0 0 v499 := iv_eq c501 (iv_lit (lo := 0) (hi := 0) 0 (by decide) (by decide))
                      have h503 : iv 0 9 (tA zz484 4 3) := f2_iv F493 b477 b482 e500.symm c501
                      refine lv_aload_n E.1 E.2.1 dX9_readClause_169 rfl (lv_at hl 3 rfl) ?_
                      refine lv_iload_n E.1 E.2.1 dX9_readClause_170 rfl (lv_at hl 2 rfl) ?_
                      refine t_vv E G hl (tr_tell_0 l D K ad zz484 oo487 (iv_mono h494 (by decide) (by decide)) (iv_mono h495 (by decide) (by decide)) h497) 9 (rfl : ro 3 = 9) (by decide) rfl rfl 1 rfl mw_code_X9_tellTown mw_ini_9 mw_ml_9_70 mw_inst_X9_tellTown mw_sel_X9_tellTown hd_X9_tellTown ⟨Nat.le_trans (by decide) hfr, Nat.le_trans (by decide) hlo⟩ rfl rfl rfl (Nat.le_of_ble_eq_true rfl) dX9_readClause_171 (fun zz504 H locs hp506 G => ?_)
                      obtain ⟨oo507, kk508⟩ := hp506
                      have kk509 : KC z zz504 := KC.tr kk491 kk508
                      refine lv_aload_n E.1 E.2.1 dX9_readClause_174 rfl (lv_at hl 3 rfl) ?_
                      refine t_vv E G hl (tr_clauseEnd l D K ad zz504 oo507) 9 (rfl : ro 3 = 9) (by decide) rfl rfl 0 rfl mw_code_X9_readClauseEnd mw_ini_9 mw_ml_9_73 mw_inst_X9_readClauseEnd mw_sel_X9_readClauseEnd hd_X9_readClauseEnd ⟨Nat.le_trans (by decide) hfr, Nat.le_trans (by decide) hlo⟩ rfl rfl rfl (Nat.le_of_ble_eq_true rfl) dX9_readClause_175 (fun zz510 H locs hp512 G => ?_)
                      obtain ⟨oo513, kk514⟩ := hp512
                      have kk515 : KC z zz510 := KC.tr kk509 kk514
                      exact RET G ⟨oo513, kk515⟩ dX9_readClause_178
          · skip
            have b516 : iv 1 1 r373 := ne_lo c378 b375 (by decide) (by decide)
            refine lv_aload_n E.1 E.2.1 dX9_readClause_55 rfl (lv_at hl 1 rfl) ?_
            refine t_get E G 9 0 (rfl : ro 3 = 9) (C := RX9) (T := TX9) (N := 3) rfl (by decide) (by decide) (by decide) mw_fl_9_12 (fvl_d rfl) dX9_readClause_56 ?_
            rw [h8]
            refine lv_iconst (v := 4) E.1 E.2.1 dX9_readClause_59 (by decide) ?_
            refine t_vv E G hl (tp_blame_z l D K ad zz2 oo5 qq1 aqq1 (4 : Int32) (iv_mono (iv_lit (lo := 4) (hi := 4) 4 (by decide) (by decide)) (by decide) (by decide))) 7 (at_ro (i := 0) aqq1 (by decide) : ro qq1 = 7) (by decide) rfl rfl 1 rfl mw_code_X7_blame mw_ini_7 mw_ml_9_52 mw_inst_X7_blame mw_sel_X7_blame hd_X7_blame ⟨Nat.le_trans (by decide) hfr, Nat.le_trans (by decide) hlo⟩ rfl rfl rfl (Nat.le_of_ble_eq_true rfl) dX9_readClause_60 (fun zz518 H locs hp520 G => ?_)
            obtain ⟨oo521, kk522, h523⟩ := hp520
            have kk524 : KC z zz518 := KC.tr kk7 (KT.c kk522)
            have h525 : tP zz518 3 0 = qq1 := KF.p kk522 h8
            exact RET G ⟨oo521, kk524⟩ dX9_readClause_63
        · skip
          have b526 : iv 1 42 v10 := ne_lo c371 b12 (by decide) (by decide)
          refine lv_aload_n E.1 E.2.1 dX9_readClause_37 rfl (lv_at hl 1 rfl) ?_
          refine t_get E G 9 0 (rfl : ro 3 = 9) (C := RX9) (T := TX9) (N := 3) rfl (by decide) (by decide) (by decide) mw_fl_9_12 (fvl_d rfl) dX9_readClause_38 ?_
          rw [h8]
          refine lv_iconst (v := 0) E.1 E.2.1 dX9_readClause_41 (by decide) ?_
          refine t_vv E G hl (tp_blame_z l D K ad zz2 oo5 qq1 aqq1 (0 : Int32) (iv_mono (iv_lit (lo := 0) (hi := 0) 0 (by decide) (by decide)) (by decide) (by decide))) 7 (at_ro (i := 0) aqq1 (by decide) : ro qq1 = 7) (by decide) rfl rfl 1 rfl mw_code_X7_blame mw_ini_7 mw_ml_9_52 mw_inst_X7_blame mw_sel_X7_blame hd_X7_blame ⟨Nat.le_trans (by decide) hfr, Nat.le_trans (by decide) hlo⟩ rfl rfl rfl (Nat.le_of_ble_eq_true rfl) dX9_readClause_42 (fun zz528 H locs hp530 G => ?_)
          obtain ⟨oo531, kk532, h533⟩ := hp530
          have kk534 : KC z zz528 := KC.tr kk7 (KT.c kk532)
          have h535 : tP zz528 3 0 = qq1 := KF.p kk532 h8
          exact RET G ⟨oo531, kk534⟩ dX9_readClause_45
