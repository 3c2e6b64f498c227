theorem mw_cL_10_267 : (Cond.constantLong RX10 267 (65536) : Cond) ∈ cw := cw_of (List.mem_append_right _ (List.mem_append_right _ (List.mem_append_right _ (List.mem_append_right _ (List.mem_append_left _ (List.mem_of_getElem? (i := 205) (by decide +kernel))))))) (by decide +kernel)
theorem mw_cL_10_269 : (Cond.constantLong RX10 269 (100) : Cond) ∈ cw := cw_of (List.mem_append_right _ (List.mem_append_right _ (List.mem_append_right _ (List.mem_append_right _ (List.mem_append_left _ (List.mem_of_getElem? (i := 206) (by decide +kernel))))))) (by decide +kernel)
theorem mw_code_X10_drawn : (Cond.code yX10_drawn cX10_drawn 2 (some .long) : Cond) ∈ cw := cw_of (List.mem_append_right _ (List.mem_append_right _ (List.mem_append_right _ (List.mem_append_right _ (List.mem_append_left _ (List.mem_of_getElem? (i := 201) rfl)))))) (by decide +kernel)
theorem mw_code_X3_areSoBehind : (Cond.code yX3_areSoBehind cX3_areSoBehind 4 (some .boolean) : Cond) ∈ cw := cw_of (List.mem_append_right _ (List.mem_append_right _ (List.mem_append_right _ (List.mem_append_right _ (List.mem_append_right _ (List.mem_append_left _ (List.mem_of_getElem? (i := 60) rfl))))))) (by decide +kernel)
theorem mw_code_X3_lastStep : (Cond.code yX3_lastStep cX3_lastStep 3 (some .int) : Cond) ∈ cw := cw_of (List.mem_append_right _ (List.mem_append_right _ (List.mem_append_right _ (List.mem_append_right _ (List.mem_append_right _ (List.mem_append_left _ (List.mem_of_getElem? (i := 55) rfl))))))) (by decide +kernel)
theorem mw_fl_10_87 : (Cond.fieldLink RX10 87 "LureTown" "tally" "[I" : Cond) ∈ cw := cw_of (List.mem_append_right _ (List.mem_append_right _ (List.mem_append_left _ (List.mem_of_getElem? (i := 141) (by decide +kernel))))) (by decide +kernel)
theorem mw_fl_10_91 : (Cond.fieldLink RX10 91 "LureTown" "marks" "[I" : Cond) ∈ cw := cw_of (List.mem_append_right _ (List.mem_append_right _ (List.mem_append_left _ (List.mem_of_getElem? (i := 142) (by decide +kernel))))) (by decide +kernel)
theorem mw_fl_10_94 : (Cond.fieldLink RX10 94 "LureTown" "gains" "[I" : Cond) ∈ cw := cw_of (List.mem_append_right _ (List.mem_append_right _ (List.mem_append_left _ (List.mem_of_getElem? (i := 143) (by decide +kernel))))) (by decide +kernel)
theorem mw_fl_10_97 : (Cond.fieldLink RX10 97 "LureTown" "otherGains" "[I" : Cond) ∈ cw := cw_of (List.mem_append_right _ (List.mem_append_right _ (List.mem_append_left _ (List.mem_of_getElem? (i := 144) (by decide +kernel))))) (by decide +kernel)
theorem mw_inst_X3_areSoBehind : (Cond.instanceMethod yX3_areSoBehind : Cond) ∈ cw := cw_of (List.mem_append_right _ (List.mem_append_right _ (List.mem_append_right _ (List.mem_append_right _ (List.mem_append_right _ (List.mem_append_left _ (List.mem_of_getElem? (i := 58) (by decide +kernel)))))))) (by decide +kernel)
theorem mw_inst_X3_lastStep : (Cond.instanceMethod yX3_lastStep : Cond) ∈ cw := cw_of (List.mem_append_right _ (List.mem_append_right _ (List.mem_append_right _ (List.mem_append_right _ (List.mem_append_right _ (List.mem_append_left _ (List.mem_of_getElem? (i := 53) (by decide +kernel)))))))) (by decide +kernel)
theorem mw_ml_10_263 : (Cond.methodLink RX10 263 yX10_drawn : Cond) ∈ cw := cw_of (List.mem_append_right _ (List.mem_append_right _ (List.mem_append_right _ (List.mem_append_right _ (List.mem_append_left _ (List.mem_of_getElem? (i := 199) (by decide +kernel))))))) (by decide +kernel)
theorem mw_ml_10_336 : (Cond.methodLink RX10 336 Lib.Math.max.name : Cond) ∈ cw := cw_of (List.mem_append_right _ (List.mem_append_right _ (List.mem_append_right _ (List.mem_append_right _ (List.mem_append_right _ (List.mem_append_left _ (List.mem_of_getElem? (i := 81) (by decide +kernel)))))))) (by decide +kernel)
theorem mw_ml_10_341 : (Cond.methodLink RX10 341 yX3_lastStep : Cond) ∈ cw := cw_of (List.mem_append_right _ (List.mem_append_right _ (List.mem_append_right _ (List.mem_append_right _ (List.mem_append_right _ (List.mem_append_left _ (List.mem_of_getElem? (i := 52) (by decide +kernel)))))))) (by decide +kernel)
theorem mw_ml_10_344 : (Cond.methodLink RX10 344 yX3_areSoBehind : Cond) ∈ cw := cw_of (List.mem_append_right _ (List.mem_append_right _ (List.mem_append_right _ (List.mem_append_right _ (List.mem_append_right _ (List.mem_append_left _ (List.mem_of_getElem? (i := 57) (by decide +kernel)))))))) (by decide +kernel)
theorem mw_sel_X3_areSoBehind : (Cond.selects RX3 yX3_areSoBehind yX3_areSoBehind : Cond) ∈ cw := cw_of (List.mem_append_right _ (List.mem_append_right _ (List.mem_append_right _ (List.mem_append_right _ (List.mem_append_right _ (List.mem_append_left _ (List.mem_of_getElem? (i := 59) (by decide +kernel)))))))) (by decide +kernel)
theorem mw_sel_X3_lastStep : (Cond.selects RX3 yX3_lastStep yX3_lastStep : Cond) ∈ cw := cw_of (List.mem_append_right _ (List.mem_append_right _ (List.mem_append_right _ (List.mem_append_right _ (List.mem_append_right _ (List.mem_append_left _ (List.mem_of_getElem? (i := 54) (by decide +kernel)))))))) (by decide +kernel)
theorem mw_stat_X10_drawn : (Cond.static yX10_drawn : Cond) ∈ cw := cw_of (List.mem_append_right _ (List.mem_append_right _ (List.mem_append_right _ (List.mem_append_right _ (List.mem_append_left _ (List.mem_of_getElem? (i := 200) (by decide +kernel))))))) (by decide +kernel)
theorem dX10_goDrawn_0 : decode cX10_goDrawn 0 = .ok (.aload_n 0, 1) := by decide +kernel
theorem dX10_goDrawn_1 : decode cX10_goDrawn 1 = .ok (.getfield 55, 3) := by decide +kernel
theorem dX10_goDrawn_4 : decode cX10_goDrawn 4 = .ok (.getfield 114, 3) := by decide +kernel
theorem dX10_goDrawn_7 : decode cX10_goDrawn 7 = .ok (.getfield 198, 3) := by decide +kernel
theorem dX10_goDrawn_10 : decode cX10_goDrawn 10 = .ok (.istore 5, 2) := by decide +kernel
theorem dX10_goDrawn_12 : decode cX10_goDrawn 12 = .ok (.iconst 0, 1) := by decide +kernel
theorem dX10_goDrawn_13 : decode cX10_goDrawn 13 = .ok (.istore 6, 2) := by decide +kernel
theorem dX10_goDrawn_15 : decode cX10_goDrawn 15 = .ok (.iload 6, 2) := by decide +kernel
theorem dX10_goDrawn_17 : decode cX10_goDrawn 17 = .ok (.iload_n 1, 1) := by decide +kernel
theorem dX10_goDrawn_18 : decode cX10_goDrawn 18 = .ok (.if_icmp .ge 67, 3) := by decide +kernel
theorem dX10_goDrawn_21 : decode cX10_goDrawn 21 = .ok (.lload_n 3, 1) := by decide +kernel
theorem dX10_goDrawn_22 : decode cX10_goDrawn 22 = .ok (.invokestatic 263, 3) := by decide +kernel
theorem dX10_goDrawn_25 : decode cX10_goDrawn 25 = .ok (.lstore_n 3, 1) := by decide +kernel
theorem dX10_goDrawn_26 : decode cX10_goDrawn 26 = .ok (.lload_n 3, 1) := by decide +kernel
theorem dX10_goDrawn_27 : decode cX10_goDrawn 27 = .ok (.ldc2_w 267, 3) := by decide +kernel
theorem dX10_goDrawn_30 : decode cX10_goDrawn 30 = .ok (.ldiv, 1) := by decide +kernel
theorem dX10_goDrawn_31 : decode cX10_goDrawn 31 = .ok (.ldc2_w 269, 3) := by decide +kernel
theorem dX10_goDrawn_34 : decode cX10_goDrawn 34 = .ok (.lrem, 1) := by decide +kernel
theorem dX10_goDrawn_35 : decode cX10_goDrawn 35 = .ok (.iload_n 2, 1) := by decide +kernel
theorem dX10_goDrawn_36 : decode cX10_goDrawn 36 = .ok (.i2l, 1) := by decide +kernel
theorem dX10_goDrawn_37 : decode cX10_goDrawn 37 = .ok (.lcmp, 1) := by decide +kernel
theorem dX10_goDrawn_38 : decode cX10_goDrawn 38 = .ok (.ifCond .ge 33, 3) := by decide +kernel
theorem dX10_goDrawn_41 : decode cX10_goDrawn 41 = .ok (.iload 5, 2) := by decide +kernel
theorem dX10_goDrawn_43 : decode cX10_goDrawn 43 = .ok (.ifCond .le 28, 3) := by decide +kernel
theorem dX10_goDrawn_46 : decode cX10_goDrawn 46 = .ok (.lload_n 3, 1) := by decide +kernel
theorem dX10_goDrawn_47 : decode cX10_goDrawn 47 = .ok (.invokestatic 263, 3) := by decide +kernel
theorem dX10_goDrawn_50 : decode cX10_goDrawn 50 = .ok (.lstore_n 3, 1) := by decide +kernel
theorem dX10_goDrawn_51 : decode cX10_goDrawn 51 = .ok (.aload_n 0, 1) := by decide +kernel
theorem dX10_goDrawn_52 : decode cX10_goDrawn 52 = .ok (.getfield 76, 3) := by decide +kernel
theorem dX10_goDrawn_55 : decode cX10_goDrawn 55 = .ok (.getfield 232, 3) := by decide +kernel
theorem dX10_goDrawn_58 : decode cX10_goDrawn 58 = .ok (.lload_n 3, 1) := by decide +kernel
theorem dX10_goDrawn_59 : decode cX10_goDrawn 59 = .ok (.ldc2_w 267, 3) := by decide +kernel
theorem dX10_goDrawn_62 : decode cX10_goDrawn 62 = .ok (.ldiv, 1) := by decide +kernel
theorem dX10_goDrawn_63 : decode cX10_goDrawn 63 = .ok (.iload 5, 2) := by decide +kernel
theorem dX10_goDrawn_65 : decode cX10_goDrawn 65 = .ok (.i2l, 1) := by decide +kernel
theorem dX10_goDrawn_66 : decode cX10_goDrawn 66 = .ok (.lrem, 1) := by decide +kernel
theorem dX10_goDrawn_67 : decode cX10_goDrawn 67 = .ok (.l2i, 1) := by decide +kernel
theorem dX10_goDrawn_68 : decode cX10_goDrawn 68 = .ok (.invokevirtual 233, 3) := by decide +kernel
theorem dX10_goDrawn_71 : decode cX10_goDrawn 71 = .ok (.aload_n 0, 1) := by decide +kernel
theorem dX10_goDrawn_72 : decode cX10_goDrawn 72 = .ok (.getfield 76, 3) := by decide +kernel
theorem dX10_goDrawn_75 : decode cX10_goDrawn 75 = .ok (.invokevirtual 229, 3) := by decide +kernel
theorem dX10_goDrawn_78 : decode cX10_goDrawn 78 = .ok (.pop, 1) := by decide +kernel
theorem dX10_goDrawn_79 : decode cX10_goDrawn 79 = .ok (.iinc 6 1, 3) := by decide +kernel
theorem dX10_goDrawn_82 : decode cX10_goDrawn 82 = .ok (.goto (-67), 3) := by decide +kernel
theorem dX10_goDrawn_85 : decode cX10_goDrawn 85 = .ok (.lload_n 3, 1) := by decide +kernel
theorem dX10_goDrawn_86 : decode cX10_goDrawn 86 = .ok (.lreturn, 1) := by decide +kernel
theorem dX10_goTillHad_0 : decode cX10_goTillHad 0 = .ok (.aload_n 0, 1) := by decide +kernel
theorem dX10_goTillHad_1 : decode cX10_goTillHad 1 = .ok (.invokevirtual 226, 3) := by decide +kernel
theorem dX10_goTillHad_4 : decode cX10_goTillHad 4 = .ok (.iconst 0, 1) := by decide +kernel
theorem dX10_goTillHad_5 : decode cX10_goTillHad 5 = .ok (.istore_n 2, 1) := by decide +kernel
theorem dX10_goTillHad_6 : decode cX10_goTillHad 6 = .ok (.iload_n 2, 1) := by decide +kernel
theorem dX10_goTillHad_7 : decode cX10_goTillHad 7 = .ok (.sipush 200, 3) := by decide +kernel
theorem dX10_goTillHad_10 : decode cX10_goTillHad 10 = .ok (.if_icmp .ge 25, 3) := by decide +kernel
theorem dX10_goTillHad_13 : decode cX10_goTillHad 13 = .ok (.aload_n 0, 1) := by decide +kernel
theorem dX10_goTillHad_14 : decode cX10_goTillHad 14 = .ok (.getfield 76, 3) := by decide +kernel
theorem dX10_goTillHad_17 : decode cX10_goTillHad 17 = .ok (.invokevirtual 229, 3) := by decide +kernel
theorem dX10_goTillHad_20 : decode cX10_goTillHad 20 = .ok (.iload_n 1, 1) := by decide +kernel
theorem dX10_goTillHad_21 : decode cX10_goTillHad 21 = .ok (.iand, 1) := by decide +kernel
theorem dX10_goTillHad_22 : decode cX10_goTillHad 22 = .ok (.istore_n 3, 1) := by decide +kernel
theorem dX10_goTillHad_23 : decode cX10_goTillHad 23 = .ok (.iload_n 3, 1) := by decide +kernel
theorem dX10_goTillHad_24 : decode cX10_goTillHad 24 = .ok (.ifCond .eq 5, 3) := by decide +kernel
theorem dX10_goTillHad_27 : decode cX10_goTillHad 27 = .ok (.iload_n 3, 1) := by decide +kernel
theorem dX10_goTillHad_28 : decode cX10_goTillHad 28 = .ok (.ireturn, 1) := by decide +kernel
theorem dX10_goTillHad_29 : decode cX10_goTillHad 29 = .ok (.iinc 2 1, 3) := by decide +kernel
theorem dX10_goTillHad_32 : decode cX10_goTillHad 32 = .ok (.goto (-26), 3) := by decide +kernel
theorem dX10_goTillHad_35 : decode cX10_goTillHad 35 = .ok (.iconst 0, 1) := by decide +kernel
theorem dX10_goTillHad_36 : decode cX10_goTillHad 36 = .ok (.ireturn, 1) := by decide +kernel
theorem dX10_isRest_0 : decode cX10_isRest 0 = .ok (.aload_n 0, 1) := by decide +kernel
theorem dX10_isRest_1 : decode cX10_isRest 1 = .ok (.getfield 55, 3) := by decide +kernel
theorem dX10_isRest_4 : decode cX10_isRest 4 = .ok (.getfield 114, 3) := by decide +kernel
theorem dX10_isRest_7 : decode cX10_isRest 7 = .ok (.getfield 192, 3) := by decide +kernel
theorem dX10_isRest_10 : decode cX10_isRest 10 = .ok (.istore_n 3, 1) := by decide +kernel
theorem dX10_isRest_11 : decode cX10_isRest 11 = .ok (.iload_n 1, 1) := by decide +kernel
theorem dX10_isRest_12 : decode cX10_isRest 12 = .ok (.iload_n 3, 1) := by decide +kernel
theorem dX10_isRest_13 : decode cX10_isRest 13 = .ok (.if_icmp .ge 8, 3) := by decide +kernel
theorem dX10_isRest_16 : decode cX10_isRest 16 = .ok (.iload_n 2, 1) := by decide +kernel
theorem dX10_isRest_17 : decode cX10_isRest 17 = .ok (.iload_n 3, 1) := by decide +kernel
theorem dX10_isRest_18 : decode cX10_isRest 18 = .ok (.if_icmp .lt 5, 3) := by decide +kernel
theorem dX10_isRest_21 : decode cX10_isRest 21 = .ok (.iconst 0, 1) := by decide +kernel
theorem dX10_isRest_22 : decode cX10_isRest 22 = .ok (.ireturn, 1) := by decide +kernel
theorem dX10_isRest_23 : decode cX10_isRest 23 = .ok (.iload_n 1, 1) := by decide +kernel
theorem dX10_isRest_24 : decode cX10_isRest 24 = .ok (.bipush 8, 2) := by decide +kernel
theorem dX10_isRest_26 : decode cX10_isRest 26 = .ok (.imul, 1) := by decide +kernel
theorem dX10_isRest_27 : decode cX10_isRest 27 = .ok (.iload_n 2, 1) := by decide +kernel
theorem dX10_isRest_28 : decode cX10_isRest 28 = .ok (.iadd, 1) := by decide +kernel
theorem dX10_isRest_29 : decode cX10_isRest 29 = .ok (.istore 4, 2) := by decide +kernel
theorem dX10_isRest_31 : decode cX10_isRest 31 = .ok (.iconst 0, 1) := by decide +kernel
theorem dX10_isRest_32 : decode cX10_isRest 32 = .ok (.istore 5, 2) := by decide +kernel
theorem dX10_isRest_34 : decode cX10_isRest 34 = .ok (.iload 5, 2) := by decide +kernel
theorem dX10_isRest_36 : decode cX10_isRest 36 = .ok (.iload_n 3, 1) := by decide +kernel
theorem dX10_isRest_37 : decode cX10_isRest 37 = .ok (.if_icmp .ge 55, 3) := by decide +kernel
theorem dX10_isRest_40 : decode cX10_isRest 40 = .ok (.aload_n 0, 1) := by decide +kernel
theorem dX10_isRest_41 : decode cX10_isRest 41 = .ok (.getfield 94, 3) := by decide +kernel
theorem dX10_isRest_44 : decode cX10_isRest 44 = .ok (.iload 5, 2) := by decide +kernel
theorem dX10_isRest_46 : decode cX10_isRest 46 = .ok (.bipush 8, 2) := by decide +kernel
theorem dX10_isRest_48 : decode cX10_isRest 48 = .ok (.imul, 1) := by decide +kernel
theorem dX10_isRest_49 : decode cX10_isRest 49 = .ok (.iload_n 2, 1) := by decide +kernel
theorem dX10_isRest_50 : decode cX10_isRest 50 = .ok (.iadd, 1) := by decide +kernel
theorem dX10_isRest_51 : decode cX10_isRest 51 = .ok (.iaload, 1) := by decide +kernel
theorem dX10_isRest_52 : decode cX10_isRest 52 = .ok (.aload_n 0, 1) := by decide +kernel
theorem dX10_isRest_53 : decode cX10_isRest 53 = .ok (.getfield 94, 3) := by decide +kernel
theorem dX10_isRest_56 : decode cX10_isRest 56 = .ok (.iload 4, 2) := by decide +kernel
theorem dX10_isRest_58 : decode cX10_isRest 58 = .ok (.iaload, 1) := by decide +kernel
theorem dX10_isRest_59 : decode cX10_isRest 59 = .ok (.if_icmp .gt 25, 3) := by decide +kernel
theorem dX10_isRest_62 : decode cX10_isRest 62 = .ok (.aload_n 0, 1) := by decide +kernel
theorem dX10_isRest_63 : decode cX10_isRest 63 = .ok (.getfield 97, 3) := by decide +kernel
theorem dX10_isRest_66 : decode cX10_isRest 66 = .ok (.iload_n 1, 1) := by decide +kernel
theorem dX10_isRest_67 : decode cX10_isRest 67 = .ok (.bipush 8, 2) := by decide +kernel
theorem dX10_isRest_69 : decode cX10_isRest 69 = .ok (.imul, 1) := by decide +kernel
theorem dX10_isRest_70 : decode cX10_isRest 70 = .ok (.iload 5, 2) := by decide +kernel
theorem dX10_isRest_72 : decode cX10_isRest 72 = .ok (.iadd, 1) := by decide +kernel
theorem dX10_isRest_73 : decode cX10_isRest 73 = .ok (.iaload, 1) := by decide +kernel
theorem dX10_isRest_74 : decode cX10_isRest 74 = .ok (.aload_n 0, 1) := by decide +kernel
theorem dX10_isRest_75 : decode cX10_isRest 75 = .ok (.getfield 97, 3) := by decide +kernel
theorem dX10_isRest_78 : decode cX10_isRest 78 = .ok (.iload 4, 2) := by decide +kernel
theorem dX10_isRest_80 : decode cX10_isRest 80 = .ok (.iaload, 1) := by decide +kernel
theorem dX10_isRest_81 : decode cX10_isRest 81 = .ok (.if_icmp .le 5, 3) := by decide +kernel
theorem dX10_isRest_84 : decode cX10_isRest 84 = .ok (.iconst 0, 1) := by decide +kernel
theorem dX10_isRest_85 : decode cX10_isRest 85 = .ok (.ireturn, 1) := by decide +kernel
theorem dX10_isRest_86 : decode cX10_isRest 86 = .ok (.iinc 5 1, 3) := by decide +kernel
theorem dX10_isRest_89 : decode cX10_isRest 89 = .ok (.goto (-55), 3) := by decide +kernel
theorem dX10_isRest_92 : decode cX10_isRest 92 = .ok (.iconst 1, 1) := by decide +kernel
theorem dX10_isRest_93 : decode cX10_isRest 93 = .ok (.ireturn, 1) := by decide +kernel
theorem dX10_markSteps_0 : decode cX10_markSteps 0 = .ok (.aload_n 0, 1) := by decide +kernel
theorem dX10_markSteps_1 : decode cX10_markSteps 1 = .ok (.invokevirtual 226, 3) := by decide +kernel
theorem dX10_markSteps_4 : decode cX10_markSteps 4 = .ok (.iconst 0, 1) := by decide +kernel
theorem dX10_markSteps_5 : decode cX10_markSteps 5 = .ok (.istore_n 1, 1) := by decide +kernel
theorem dX10_markSteps_6 : decode cX10_markSteps 6 = .ok (.iload_n 1, 1) := by decide +kernel
theorem dX10_markSteps_7 : decode cX10_markSteps 7 = .ok (.bipush 60, 2) := by decide +kernel
theorem dX10_markSteps_9 : decode cX10_markSteps 9 = .ok (.if_icmp .gt 79, 3) := by decide +kernel
theorem dX10_markSteps_12 : decode cX10_markSteps 12 = .ok (.iload_n 1, 1) := by decide +kernel
theorem dX10_markSteps_13 : decode cX10_markSteps 13 = .ok (.ifCond .le 11, 3) := by decide +kernel
theorem dX10_markSteps_16 : decode cX10_markSteps 16 = .ok (.aload_n 0, 1) := by decide +kernel
theorem dX10_markSteps_17 : decode cX10_markSteps 17 = .ok (.getfield 76, 3) := by decide +kernel
theorem dX10_markSteps_20 : decode cX10_markSteps 20 = .ok (.invokevirtual 229, 3) := by decide +kernel
theorem dX10_markSteps_23 : decode cX10_markSteps 23 = .ok (.pop, 1) := by decide +kernel
theorem dX10_markSteps_24 : decode cX10_markSteps 24 = .ok (.aload_n 0, 1) := by decide +kernel
theorem dX10_markSteps_25 : decode cX10_markSteps 25 = .ok (.getfield 76, 3) := by decide +kernel
theorem dX10_markSteps_28 : decode cX10_markSteps 28 = .ok (.getfield 232, 3) := by decide +kernel
theorem dX10_markSteps_31 : decode cX10_markSteps 31 = .ok (.getfield 204, 3) := by decide +kernel
theorem dX10_markSteps_34 : decode cX10_markSteps 34 = .ok (.istore_n 2, 1) := by decide +kernel
theorem dX10_markSteps_35 : decode cX10_markSteps 35 = .ok (.iconst 0, 1) := by decide +kernel
theorem dX10_markSteps_36 : decode cX10_markSteps 36 = .ok (.istore_n 3, 1) := by decide +kernel
theorem dX10_markSteps_37 : decode cX10_markSteps 37 = .ok (.iload_n 3, 1) := by decide +kernel
theorem dX10_markSteps_38 : decode cX10_markSteps 38 = .ok (.aload_n 0, 1) := by decide +kernel
theorem dX10_markSteps_39 : decode cX10_markSteps 39 = .ok (.getfield 55, 3) := by decide +kernel
theorem dX10_markSteps_42 : decode cX10_markSteps 42 = .ok (.getfield 114, 3) := by decide +kernel
theorem dX10_markSteps_45 : decode cX10_markSteps 45 = .ok (.getfield 140, 3) := by decide +kernel
theorem dX10_markSteps_48 : decode cX10_markSteps 48 = .ok (.if_icmp .ge 27, 3) := by decide +kernel
theorem dX10_markSteps_51 : decode cX10_markSteps 51 = .ok (.iload_n 2, 1) := by decide +kernel
theorem dX10_markSteps_52 : decode cX10_markSteps 52 = .ok (.bipush 8, 2) := by decide +kernel
theorem dX10_markSteps_54 : decode cX10_markSteps 54 = .ok (.imul, 1) := by decide +kernel
theorem dX10_markSteps_55 : decode cX10_markSteps 55 = .ok (.aload_n 0, 1) := by decide +kernel
theorem dX10_markSteps_56 : decode cX10_markSteps 56 = .ok (.getfield 76, 3) := by decide +kernel
theorem dX10_markSteps_59 : decode cX10_markSteps 59 = .ok (.getfield 232, 3) := by decide +kernel
theorem dX10_markSteps_62 : decode cX10_markSteps 62 = .ok (.getfield 171, 3) := by decide +kernel
theorem dX10_markSteps_65 : decode cX10_markSteps 65 = .ok (.iload_n 3, 1) := by decide +kernel
theorem dX10_markSteps_66 : decode cX10_markSteps 66 = .ok (.iaload, 1) := by decide +kernel
theorem dX10_markSteps_67 : decode cX10_markSteps 67 = .ok (.iadd, 1) := by decide +kernel
theorem dX10_markSteps_68 : decode cX10_markSteps 68 = .ok (.istore_n 2, 1) := by decide +kernel
theorem dX10_markSteps_69 : decode cX10_markSteps 69 = .ok (.iinc 3 1, 3) := by decide +kernel
theorem dX10_markSteps_72 : decode cX10_markSteps 72 = .ok (.goto (-35), 3) := by decide +kernel
theorem dX10_markSteps_75 : decode cX10_markSteps 75 = .ok (.aload_n 0, 1) := by decide +kernel
theorem dX10_markSteps_76 : decode cX10_markSteps 76 = .ok (.getfield 91, 3) := by decide +kernel
theorem dX10_markSteps_79 : decode cX10_markSteps 79 = .ok (.iload_n 1, 1) := by decide +kernel
theorem dX10_markSteps_80 : decode cX10_markSteps 80 = .ok (.iload_n 2, 1) := by decide +kernel
theorem dX10_markSteps_81 : decode cX10_markSteps 81 = .ok (.iastore, 1) := by decide +kernel
theorem dX10_markSteps_82 : decode cX10_markSteps 82 = .ok (.iinc 1 1, 3) := by decide +kernel
theorem dX10_markSteps_85 : decode cX10_markSteps 85 = .ok (.goto (-79), 3) := by decide +kernel
theorem dX10_markSteps_88 : decode cX10_markSteps 88 = .ok (.return_, 1) := by decide +kernel
theorem dX10_mostAlike_0 : decode cX10_mostAlike 0 = .ok (.iconst 0, 1) := by decide +kernel
theorem dX10_mostAlike_1 : decode cX10_mostAlike 1 = .ok (.istore_n 2, 1) := by decide +kernel
theorem dX10_mostAlike_2 : decode cX10_mostAlike 2 = .ok (.iconst 0, 1) := by decide +kernel
theorem dX10_mostAlike_3 : decode cX10_mostAlike 3 = .ok (.istore_n 3, 1) := by decide +kernel
theorem dX10_mostAlike_4 : decode cX10_mostAlike 4 = .ok (.iload_n 3, 1) := by decide +kernel
theorem dX10_mostAlike_5 : decode cX10_mostAlike 5 = .ok (.bipush 8, 2) := by decide +kernel
theorem dX10_mostAlike_7 : decode cX10_mostAlike 7 = .ok (.if_icmp .ge 25, 3) := by decide +kernel
theorem dX10_mostAlike_10 : decode cX10_mostAlike 10 = .ok (.iload_n 2, 1) := by decide +kernel
theorem dX10_mostAlike_11 : decode cX10_mostAlike 11 = .ok (.aload_n 0, 1) := by decide +kernel
theorem dX10_mostAlike_12 : decode cX10_mostAlike 12 = .ok (.getfield 87, 3) := by decide +kernel
theorem dX10_mostAlike_15 : decode cX10_mostAlike 15 = .ok (.iload_n 1, 1) := by decide +kernel
theorem dX10_mostAlike_16 : decode cX10_mostAlike 16 = .ok (.bipush 8, 2) := by decide +kernel
theorem dX10_mostAlike_18 : decode cX10_mostAlike 18 = .ok (.imul, 1) := by decide +kernel
theorem dX10_mostAlike_19 : decode cX10_mostAlike 19 = .ok (.iload_n 3, 1) := by decide +kernel
theorem dX10_mostAlike_20 : decode cX10_mostAlike 20 = .ok (.iadd, 1) := by decide +kernel
theorem dX10_mostAlike_21 : decode cX10_mostAlike 21 = .ok (.iaload, 1) := by decide +kernel
theorem dX10_mostAlike_22 : decode cX10_mostAlike 22 = .ok (.invokestatic 336, 3) := by decide +kernel
theorem dX10_mostAlike_25 : decode cX10_mostAlike 25 = .ok (.istore_n 2, 1) := by decide +kernel
theorem dX10_mostAlike_26 : decode cX10_mostAlike 26 = .ok (.iinc 3 1, 3) := by decide +kernel
theorem dX10_mostAlike_29 : decode cX10_mostAlike 29 = .ok (.goto (-25), 3) := by decide +kernel
theorem dX10_mostAlike_32 : decode cX10_mostAlike 32 = .ok (.iload_n 2, 1) := by decide +kernel
theorem dX10_mostAlike_33 : decode cX10_mostAlike 33 = .ok (.ireturn, 1) := by decide +kernel
theorem dX10_notesAreSo_0 : decode cX10_notesAreSo 0 = .ok (.aload_n 0, 1) := by decide +kernel
theorem dX10_notesAreSo_1 : decode cX10_notesAreSo 1 = .ok (.getfield 76, 3) := by decide +kernel
theorem dX10_notesAreSo_4 : decode cX10_notesAreSo 4 = .ok (.aload_n 0, 1) := by decide +kernel
theorem dX10_notesAreSo_5 : decode cX10_notesAreSo 5 = .ok (.getfield 55, 3) := by decide +kernel
theorem dX10_notesAreSo_8 : decode cX10_notesAreSo 8 = .ok (.getfield 114, 3) := by decide +kernel
theorem dX10_notesAreSo_11 : decode cX10_notesAreSo 11 = .ok (.aload_n 1, 1) := by decide +kernel
theorem dX10_notesAreSo_12 : decode cX10_notesAreSo 12 = .ok (.aload_n 2, 1) := by decide +kernel
theorem dX10_notesAreSo_13 : decode cX10_notesAreSo 13 = .ok (.invokevirtual 299, 3) := by decide +kernel
theorem dX10_notesAreSo_16 : decode cX10_notesAreSo 16 = .ok (.aload_n 0, 1) := by decide +kernel
theorem dX10_notesAreSo_17 : decode cX10_notesAreSo 17 = .ok (.getfield 55, 3) := by decide +kernel
theorem dX10_notesAreSo_20 : decode cX10_notesAreSo 20 = .ok (.getfield 130, 3) := by decide +kernel
theorem dX10_notesAreSo_23 : decode cX10_notesAreSo 23 = .ok (.invokevirtual 341, 3) := by decide +kernel
theorem dX10_notesAreSo_26 : decode cX10_notesAreSo 26 = .ok (.istore_n 3, 1) := by decide +kernel
theorem dX10_notesAreSo_27 : decode cX10_notesAreSo 27 = .ok (.iconst 0, 1) := by decide +kernel
theorem dX10_notesAreSo_28 : decode cX10_notesAreSo 28 = .ok (.istore 4, 2) := by decide +kernel
theorem dX10_notesAreSo_30 : decode cX10_notesAreSo 30 = .ok (.iload 4, 2) := by decide +kernel
theorem dX10_notesAreSo_32 : decode cX10_notesAreSo 32 = .ok (.iload_n 3, 1) := by decide +kernel
theorem dX10_notesAreSo_33 : decode cX10_notesAreSo 33 = .ok (.if_icmp .gt 46, 3) := by decide +kernel
theorem dX10_notesAreSo_36 : decode cX10_notesAreSo 36 = .ok (.iload 4, 2) := by decide +kernel
theorem dX10_notesAreSo_38 : decode cX10_notesAreSo 38 = .ok (.ifCond .le 11, 3) := by decide +kernel
theorem dX10_notesAreSo_41 : decode cX10_notesAreSo 41 = .ok (.aload_n 0, 1) := by decide +kernel
theorem dX10_notesAreSo_42 : decode cX10_notesAreSo 42 = .ok (.getfield 76, 3) := by decide +kernel
theorem dX10_notesAreSo_45 : decode cX10_notesAreSo 45 = .ok (.invokevirtual 229, 3) := by decide +kernel
theorem dX10_notesAreSo_48 : decode cX10_notesAreSo 48 = .ok (.pop, 1) := by decide +kernel
theorem dX10_notesAreSo_49 : decode cX10_notesAreSo 49 = .ok (.aload_n 0, 1) := by decide +kernel
theorem dX10_notesAreSo_50 : decode cX10_notesAreSo 50 = .ok (.getfield 55, 3) := by decide +kernel
theorem dX10_notesAreSo_53 : decode cX10_notesAreSo 53 = .ok (.getfield 130, 3) := by decide +kernel
theorem dX10_notesAreSo_56 : decode cX10_notesAreSo 56 = .ok (.iload 4, 2) := by decide +kernel
theorem dX10_notesAreSo_58 : decode cX10_notesAreSo 58 = .ok (.aload_n 0, 1) := by decide +kernel
theorem dX10_notesAreSo_59 : decode cX10_notesAreSo 59 = .ok (.getfield 76, 3) := by decide +kernel
theorem dX10_notesAreSo_62 : decode cX10_notesAreSo 62 = .ok (.getfield 232, 3) := by decide +kernel
theorem dX10_notesAreSo_65 : decode cX10_notesAreSo 65 = .ok (.invokevirtual 344, 3) := by decide +kernel
theorem dX10_notesAreSo_68 : decode cX10_notesAreSo 68 = .ok (.ifCond .ne 5, 3) := by decide +kernel
theorem dX10_notesAreSo_71 : decode cX10_notesAreSo 71 = .ok (.iconst 0, 1) := by decide +kernel
theorem dX10_notesAreSo_72 : decode cX10_notesAreSo 72 = .ok (.ireturn, 1) := by decide +kernel
theorem dX10_notesAreSo_73 : decode cX10_notesAreSo 73 = .ok (.iinc 4 1, 3) := by decide +kernel
theorem dX10_notesAreSo_76 : decode cX10_notesAreSo 76 = .ok (.goto (-46), 3) := by decide +kernel
theorem dX10_notesAreSo_79 : decode cX10_notesAreSo 79 = .ok (.iconst 1, 1) := by decide +kernel
theorem dX10_notesAreSo_80 : decode cX10_notesAreSo 80 = .ok (.ireturn, 1) := by decide +kernel
theorem hd_X10_drawn : yX10_drawn.cls ≠ "java/lang/invoke/MethodHandle" ∧ yX10_drawn.cls ≠ "java/lang/invoke/VarHandle" ∧ (parseMethodDescriptor yX10_drawn.desc).map (fun d => d.parameters.length) = some 1 := ⟨by decide +kernel, by decide +kernel, by decide +kernel⟩
theorem hd_X3_areSoBehind : yX3_areSoBehind.cls ≠ "java/lang/invoke/MethodHandle" ∧ yX3_areSoBehind.cls ≠ "java/lang/invoke/VarHandle" ∧ (parseMethodDescriptor yX3_areSoBehind.desc).map (fun d => d.parameters.length) = some 2 := ⟨by decide +kernel, by decide +kernel, by decide +kernel⟩
theorem hd_X3_lastStep : yX3_lastStep.cls ≠ "java/lang/invoke/MethodHandle" ∧ yX3_lastStep.cls ≠ "java/lang/invoke/VarHandle" ∧ (parseMethodDescriptor yX3_lastStep.desc).map (fun d => d.parameters.length) = some 0 := ⟨by decide +kernel, by decide +kernel, by decide +kernel⟩
set_option maxHeartbeats 4000000 in
set_option maxRecDepth 100000 in
theorem k_goTillHad (l : Launch) (D : va_G) (K : Nat → ClassId) (ad : Nat → Nat) (z : TS) (o : Ok z) (x1 : Int32) : cI l yX10_goTillHad cX10_goTillHad 4 .int ({ frames := 5, cells := 0, slots := 0, locals := 124 }) D K ad z [.ref (ad 0), .int x1] (fun r u => Ok u ∧ KC z u) := by
  refine t_enterI (by decide) (Nat.le_of_ble_eq_true rfl) rfl rfl ?_
  intro p e s m args below meth c A R Q H locs ls E hfr hlo RET G hl
  have E : mE p s m meth c cX10_goTillHad args 4 RX10 D K A := E
  have hl : lv_has ls 4 [(0, .ref (ad 0)), (1, .int x1)] := hl
  refine lv_aload_n E.1 E.2.1 dX10_goTillHad_0 rfl (lv_at hl 0 rfl) ?_
  refine t_vv E G hl (k_startNow l D K ad z o) 10 (rfl : ro 0 = 10) (by decide) rfl rfl 0 rfl mw_code_X10_startNow mw_ini_10 mw_ml_10_226 mw_inst_X10_startNow mw_sel_X10_startNow hd_X10_startNow ⟨Nat.le_trans (by decide) hfr, Nat.le_trans (by decide) hlo⟩ rfl rfl rfl (Nat.le_of_ble_eq_true rfl) dX10_goTillHad_1 (fun zz1 H locs hp3 G => ?_)
  obtain ⟨oo4, kk5⟩ := hp3
  have kk6 : KC z zz1 := KC.tr KC.rf kk5
  refine lv_iconst (v := 0) E.1 E.2.1 dX10_goTillHad_4 (by decide) ?_
  refine lv_istore_n (lv' := [(2, .int 0), (0, .ref (ad 0)), (1, .int x1)]) E.1 E.2.1 dX10_goTillHad_5 rfl hl (by decide) rfl (fun ls hl => ?_)
  have LOOP6 : ∀ n : Nat, ∀ (zz8 : TS) (y7 : Int32) (H : Heap) (locs : List Loc) (ls : Array Slot), mG D A s H locs (wd K ad zz8) → Ok zz8 → KC z zz8 → iv 0 200 y7 → 200 < y7.toInt + (n : Int) → lv_has ls 4 [(2, .int y7), (0, .ref (ad 0)), (1, .int x1)] → W p l e R s m args below meth c H locs 0 0 Q (F0 m 6 ls []) := by
    intro n
    induction n with
    | zero =>
      intro zz8 y7 H locs ls G oo9 kk10 b12 m11 hl
      exact absurd m11 (by have := b12.1; have := b12.2; omega)
    | succ n ih6 =>
      intro zz8 y7 H locs ls G oo9 kk10 b12 m11 hl
      refine lv_iload_n E.1 E.2.1 dX10_goTillHad_6 rfl (lv_at hl 0 rfl) ?_
      refine lv_sipush (v := 200) E.1 E.2.1 dX10_goTillHad_7 (by decide) ?_
      refine lv_icmp_ge (tgt := 35) E.1 E.2.1 dX10_goTillHad_10 (by decide) (fun c13 => ?_) (fun c13 => ?_)
      · skip
        have b14 : iv 200 200 y7 := le_r c13 (iv_lit (lo := 200) (hi := 200) 200 (by decide) (by decide)) b12 (by decide)
        refine lv_iconst (v := 0) E.1 E.2.1 dX10_goTillHad_35 (by decide) ?_
        exact RET G ⟨oo9, kk10⟩ rfl dX10_goTillHad_36
      · skip
        have b15 : iv 0 199 y7 := lt_l (Int32.not_le.mp c13) b12 (iv_lit (lo := 200) (hi := 200) 200 (by decide) (by decide)) (by decide)
        refine lv_aload_n E.1 E.2.1 dX10_goTillHad_13 rfl (lv_at hl 1 rfl) ?_
        refine t_get E G 10 11 (rfl : ro 0 = 10) (C := RX10) (T := TX10) (N := 17) rfl (by decide) (by decide) (by decide) mw_fl_10_76 (v := .ref (ad 324)) (fvl_o (n := 324) rfl) dX10_goTillHad_14 ?_
        refine t_vi E G hl (c_goStep l D K ad zz8 oo9) 1 (rfl : ro 324 = 1) (by decide) rfl rfl 0 rfl mw_code_X1_goStep mw_ini_1 mw_ml_10_229 mw_inst_X1_goStep mw_sel_X1_goStep hd_X1_goStep ⟨Nat.le_trans (by decide) hfr, Nat.le_trans (by decide) hlo⟩ rfl rfl rfl (Nat.le_of_ble_eq_true rfl) dX10_goTillHad_17 (fun r17 zz16 H locs hp18 G => ?_)
        obtain ⟨oo19, kk20⟩ := hp18
        have kk21 : KC z zz16 := KC.tr kk10 kk20
        refine lv_iload_n E.1 E.2.1 dX10_goTillHad_20 rfl (lv_at hl 2 rfl) ?_
        refine lv_iand E.1 E.2.1 dX10_goTillHad_21 ?_
        refine lv_topi (fun v22 e23 => ?_)
        refine lv_istore_n (lv' := [(3, .int v22), (2, .int y7), (0, .ref (ad 0)), (1, .int x1)]) E.1 E.2.1 dX10_goTillHad_22 rfl hl (by decide) rfl (fun ls hl => ?_)
        refine lv_iload_n E.1 E.2.1 dX10_goTillHad_23 rfl (lv_at hl 0 rfl) ?_
        refine lv_if_eq (tgt := 29) E.1 E.2.1 dX10_goTillHad_24 (by decide) (fun c24 => ?_) (fun c24 => ?_)
        · skip
          have b25 : iv 0 0 v22 := iv_eq c24 (iv_lit (lo := 0) (hi := 0) 0 (by decide) (by decide))
          obtain ⟨v26, e27⟩ : ∃ w : Int32, w = y7 + (1 : Int32) := ⟨_, rfl⟩
          refine lv_iinc (v := v26) (lv' := [(2, .int v26), (3, .int v22), (0, .ref (ad 0)), (1, .int x1)]) E.1 E.2.1 dX10_goTillHad_29 hl (k := 1) rfl (by rw [e27]; rfl) (by decide) rfl (fun ls hl => ?_)
          have b28 : iv 1 200 v26 := by rw [e27]; exact iv_add b15 (iv_lit (lo := 1) (hi := 1) 1 (by decide) (by decide)) (by decide) (by decide) (by decide) (by decide)
          have t29 : v26.toInt = y7.toInt + 1 := by rw [e27]; exact ti_addc 1 (by decide) b15 (by decide) (by decide)
          refine lv_goto (tgt := 6) E.1 E.2.1 dX10_goTillHad_32 (by decide) ?_
          exact ih6 zz16 v26 H locs ls G oo19 kk21 (iv_mono b28 (by decide) (by decide)) (by have := t29; have := m11; omega) (lv_sub hl [0, 2, 3] rfl)
        · skip
          refine lv_iload_n E.1 E.2.1 dX10_goTillHad_27 rfl (lv_at hl 0 rfl) ?_
          exact RET G ⟨oo19, kk21⟩ rfl dX10_goTillHad_28
  exact LOOP6 201 zz1 0 H locs ls G oo4 kk6 (iv_mono (iv_lit (lo := 0) (hi := 0) 0 (by decide) (by decide)) (by decide) (by decide)) (by have := (iv_lit (lo := 0) (hi := 0) 0 (by decide) (by decide)).1; omega) (lv_sub hl [0, 1, 2] rfl)
set_option maxHeartbeats 4000000 in
set_option maxRecDepth 100000 in
theorem k_markSteps (l : Launch) (D : va_G) (K : Nat → ClassId) (ad : Nat → Nat) (z : TS) (o : Ok z) : cV l yX10_markSteps cX10_markSteps 4 ({ frames := 5, cells := 0, slots := 0, locals := 124 }) D K ad z [.ref (ad 0)] (fun u => Ok u ∧ KC z u) := by
  refine t_enterV (by decide) (Nat.le_of_ble_eq_true rfl) rfl rfl ?_
  intro p e s m args below meth c A R Q H locs ls E hfr hlo RET G hl
  have E : mE p s m meth c cX10_markSteps args 4 RX10 D K A := E
  have hl : lv_has ls 4 [(0, .ref (ad 0))] := hl
  refine lv_aload_n E.1 E.2.1 dX10_markSteps_0 rfl (lv_at hl 0 rfl) ?_
  refine t_vv E G hl (k_startNow l D K ad z o) 10 (rfl : ro 0 = 10) (by decide) rfl rfl 0 rfl mw_code_X10_startNow mw_ini_10 mw_ml_10_226 mw_inst_X10_startNow mw_sel_X10_startNow hd_X10_startNow ⟨Nat.le_trans (by decide) hfr, Nat.le_trans (by decide) hlo⟩ rfl rfl rfl (Nat.le_of_ble_eq_true rfl) dX10_markSteps_1 (fun zz1 H locs hp3 G => ?_)
  obtain ⟨oo4, kk5⟩ := hp3
  have kk6 : KC z zz1 := KC.tr KC.rf kk5
  refine lv_iconst (v := 0) E.1 E.2.1 dX10_markSteps_4 (by decide) ?_
  refine lv_istore_n (lv' := [(1, .int 0), (0, .ref (ad 0))]) E.1 E.2.1 dX10_markSteps_5 rfl hl (by decide) rfl (fun ls hl => ?_)
  have LOOP6 : ∀ n : Nat, ∀ (zz8 : TS) (y7 : Int32) (H : Heap) (locs : List Loc) (ls : Array Slot), mG D A s H locs (wd K ad zz8) → Ok zz8 → KC z zz8 → iv 0 61 y7 → 61 < y7.toInt + (n : Int) → lv_has ls 4 [(1, .int y7), (0, .ref (ad 0))] → W p l e R s m args below meth c H locs 0 0 Q (F0 m 6 ls []) := by
    intro n
    induction n with
    | zero =>
      intro zz8 y7 H locs ls G oo9 kk10 b12 m11 hl
      exact absurd m11 (by have := b12.1; have := b12.2; omega)
    | succ n ih6 =>
      intro zz8 y7 H locs ls G oo9 kk10 b12 m11 hl
      refine lv_iload_n E.1 E.2.1 dX10_markSteps_6 rfl (lv_at hl 0 rfl) ?_
      refine lv_bipush (v := 60) E.1 E.2.1 dX10_markSteps_7 (by decide) ?_
      refine lv_icmp_gt (tgt := 88) E.1 E.2.1 dX10_markSteps_9 (by decide) (fun c13 => ?_) (fun c13 => ?_)
      · skip
        have b14 : iv 61 61 y7 := lt_r c13 (iv_lit (lo := 60) (hi := 60) 60 (by decide) (by decide)) b12 (by decide)
        exact RET G ⟨oo9, kk10⟩ dX10_markSteps_88
      · skip
        have b15 : iv 0 60 y7 := le_l (Int32.not_lt.mp c13) b12 (iv_lit (lo := 60) (hi := 60) 60 (by decide) (by decide)) (by decide)
        refine lv_iload_n E.1 E.2.1 dX10_markSteps_12 rfl (lv_at hl 0 rfl) ?_
        refine lv_if_le (tgt := 24) E.1 E.2.1 dX10_markSteps_13 (by decide) (fun c16 => ?_) (fun c16 => ?_)
        · skip
          have b17 : iv 0 0 y7 := le_l c16 b15 (iv_lit (lo := 0) (hi := 0) 0 (by decide) (by decide)) (by decide)
          refine lv_aload_n E.1 E.2.1 dX10_markSteps_24 rfl (lv_at hl 1 rfl) ?_
          refine t_get E G 10 11 (rfl : ro 0 = 10) (C := RX10) (T := TX10) (N := 17) rfl (by decide) (by decide) (by decide) mw_fl_10_76 (v := .ref (ad 324)) (fvl_o (n := 324) rfl) dX10_markSteps_25 ?_
          refine t_get E G 1 0 (rfl : ro 324 = 1) (C := RX1) (T := TX1) (N := 6) rfl (by decide) (by decide) (by decide) mw_fl_10_232 (v := .ref (ad 325)) (fvl_o (n := 1) rfl) dX10_markSteps_28 ?_
          refine t_get E G 6 6 (rfl : ro 325 = 6) (C := RX6) (T := TX6) (N := 8) rfl (by decide) (by decide) (by decide) mw_fl_10_204 (fvl_i rfl) dX10_markSteps_31 ?_
          refine lv_topi (fun v18 e19 => ?_)
          refine lv_istore_n (lv' := [(2, .int v18), (1, .int y7), (0, .ref (ad 0))]) E.1 E.2.1 dX10_markSteps_34 rfl hl (by decide) rfl (fun ls hl => ?_)
          refine lv_iconst (v := 0) E.1 E.2.1 dX10_markSteps_35 (by decide) ?_
          refine lv_istore_n (lv' := [(3, .int 0), (2, .int v18), (1, .int y7), (0, .ref (ad 0))]) E.1 E.2.1 dX10_markSteps_36 rfl hl (by decide) rfl (fun ls hl => ?_)
          have LOOP37 : ∀ n : Nat, ∀ (y20 : Int32) (y21 : Int32) (H : Heap) (locs : List Loc) (ls : Array Slot), mG D A s H locs (wd K ad zz8) → iv 0 5 y20 → 5 < y20.toInt + (n : Int) → lv_has ls 4 [(3, .int y20), (2, .int y21), (1, .int y7), (0, .ref (ad 0))] → W p l e R s m args below meth c H locs 0 0 Q (F0 m 37 ls []) := by
            intro n
            induction n with
            | zero =>
              intro y20 y21 H locs ls G b26 m25 hl
              exact absurd m25 (by have := b26.1; have := b26.2; omega)
            | succ n ih37 =>
              intro y20 y21 H locs ls G b26 m25 hl
              refine lv_iload_n E.1 E.2.1 dX10_markSteps_37 rfl (lv_at hl 0 rfl) ?_
              refine lv_aload_n E.1 E.2.1 dX10_markSteps_38 rfl (lv_at hl 3 rfl) ?_
              refine t_get E G 10 7 (rfl : ro 0 = 10) (C := RX10) (T := TX10) (N := 17) rfl (by decide) (by decide) (by decide) mw_fl_10_55 (v := .ref (ad 56)) (fvl_o (n := 56) rfl) dX10_markSteps_39 ?_
              refine t_get E G 2 0 (rfl : ro 56 = 2) (C := RX2) (T := TX2) (N := 5) rfl (by decide) (by decide) (by decide) mw_fl_10_114 (v := .ref (ad 57)) (fvl_o (n := 1) rfl) dX10_markSteps_42 ?_
              refine t_get E G 8 3 (rfl : ro 57 = 8) (C := RX8) (T := TX8) (N := 10) rfl (by decide) (by decide) (by decide) mw_fl_10_140 (fvl_i rfl) dX10_markSteps_45 ?_
              refine lv_topi (fun v27 e28 => ?_)
              have b29 : iv 0 5 v27 := by rw [e28]; exact oo9.i 8 3 (rfl : ro 57 = 8)
              refine lv_icmp_ge (tgt := 75) E.1 E.2.1 dX10_markSteps_48 (by decide) (fun c30 => ?_) (fun c30 => ?_)
              · skip
                refine lv_aload_n E.1 E.2.1 dX10_markSteps_75 rfl (lv_at hl 3 rfl) ?_
                refine t_get E G 10 14 (rfl : ro 0 = 10) (C := RX10) (T := TX10) (N := 17) rfl (by decide) (by decide) (by decide) mw_fl_10_91 (v := .ref (ad 343)) (fvl_o (n := 343) rfl) dX10_markSteps_76 ?_
                refine lv_iload_n E.1 E.2.1 dX10_markSteps_79 rfl (lv_at hl 2 rfl) ?_
                refine lv_iload_n E.1 E.2.1 dX10_markSteps_80 rfl (lv_at hl 1 rfl) ?_
                refine t_iast E G 43 (rfl : ro 343 = 43) (by decide) (by decide) rfl (n := 61) rfl (iv_vp b17 (by decide) (by decide)) dX10_markSteps_81 (fun H locs G => ?_)
                obtain ⟨zz31, G, oo32, kk33, h34, h35⟩ : ∃ u : TS, mG D A s H locs (wd K ad u) ∧ Ok u ∧ KC z u ∧ tI u 325 6 = v18 ∧ tI u 57 3 = v27 := ⟨_, G, ok_uc oo9 43 (rfl : ro 343 = 43) (by decide) (iv_mono (iv_full y21) (by decide) (by decide)) (by decide), KC.tr kk10 (KC_r 43 (rfl : ro 343 = 43) (by decide)), e19.symm, e28.symm⟩
                obtain ⟨v36, e37⟩ : ∃ w : Int32, w = y7 + (1 : Int32) := ⟨_, rfl⟩
                refine lv_iinc (v := v36) (lv' := [(1, .int v36), (3, .int y20), (2, .int y21), (0, .ref (ad 0))]) E.1 E.2.1 dX10_markSteps_82 hl (k := 2) rfl (by rw [e37]; rfl) (by decide) rfl (fun ls hl => ?_)
                have b38 : iv 1 1 v36 := by rw [e37]; exact iv_add b17 (iv_lit (lo := 1) (hi := 1) 1 (by decide) (by decide)) (by decide) (by decide) (by decide) (by decide)
                have t39 : v36.toInt = y7.toInt + 1 := by rw [e37]; exact ti_addc 1 (by decide) b17 (by decide) (by decide)
                refine lv_goto (tgt := 6) E.1 E.2.1 dX10_markSteps_85 (by decide) ?_
                exact ih6 zz31 v36 H locs ls G oo32 kk33 (iv_mono b38 (by decide) (by decide)) (by have := t39; have := m11; omega) (lv_sub hl [0, 3] rfl)
              · skip
                have b40 : iv 0 4 y20 := lt_l (Int32.not_le.mp c30) b26 b29 (by decide)
                have b41 : iv 1 5 v27 := lt_r (Int32.not_le.mp c30) b26 b29 (by decide)
                refine lv_iload_n E.1 E.2.1 dX10_markSteps_51 rfl (lv_at hl 1 rfl) ?_
                refine lv_bipush (v := 8) E.1 E.2.1 dX10_markSteps_52 (by decide) ?_
                refine lv_imul E.1 E.2.1 dX10_markSteps_54 ?_
                refine lv_topi (fun v42 e43 => ?_)
                refine lv_aload_n E.1 E.2.1 dX10_markSteps_55 rfl (lv_at hl 3 rfl) ?_
                refine t_get E G 10 11 (rfl : ro 0 = 10) (C := RX10) (T := TX10) (N := 17) rfl (by decide) (by decide) (by decide) mw_fl_10_76 (v := .ref (ad 324)) (fvl_o (n := 324) rfl) dX10_markSteps_56 ?_
                refine t_get E G 1 0 (rfl : ro 324 = 1) (C := RX1) (T := TX1) (N := 6) rfl (by decide) (by decide) (by decide) mw_fl_10_232 (v := .ref (ad 325)) (fvl_o (n := 1) rfl) dX10_markSteps_59 ?_
                refine t_get E G 6 0 (rfl : ro 325 = 6) (C := RX6) (T := TX6) (N := 8) rfl (by decide) (by decide) (by decide) mw_fl_10_171 (v := .ref (ad 326)) (fvl_o (n := 1) rfl) dX10_markSteps_62 ?_
                refine lv_iload_n E.1 E.2.1 dX10_markSteps_65 rfl (lv_at hl 0 rfl) ?_
                refine t_iald E G 21 (rfl : ro 326 = 21) (by decide) (by decide) rfl (n := 5) rfl (iv_vp b40 (by decide) (by decide)) dX10_markSteps_66 ?_
                refine lv_topi (fun v44 e45 => ?_)
                have b46 : iv 0 7 v44 := by rw [e45]; exact oo9.ac 21 (rfl : ro 326 = 21) (by decide) _
                refine lv_iadd E.1 E.2.1 dX10_markSteps_67 ?_
                refine lv_topi (fun v47 e48 => ?_)
                refine lv_istore_n (lv' := [(2, .int v47), (3, .int y20), (1, .int y7), (0, .ref (ad 0))]) E.1 E.2.1 dX10_markSteps_68 rfl hl (by decide) rfl (fun ls hl => ?_)
                obtain ⟨v49, e50⟩ : ∃ w : Int32, w = y20 + (1 : Int32) := ⟨_, rfl⟩
                refine lv_iinc (v := v49) (lv' := [(3, .int v49), (2, .int v47), (1, .int y7), (0, .ref (ad 0))]) E.1 E.2.1 dX10_markSteps_69 hl (k := 1) rfl (by rw [e50]; rfl) (by decide) rfl (fun ls hl => ?_)
                have b51 : iv 1 5 v49 := by rw [e50]; exact iv_add b40 (iv_lit (lo := 1) (hi := 1) 1 (by decide) (by decide)) (by decide) (by decide) (by decide) (by decide)
                have t52 : v49.toInt = y20.toInt + 1 := by rw [e50]; exact ti_addc 1 (by decide) b40 (by decide) (by decide)
                refine lv_goto (tgt := 37) E.1 E.2.1 dX10_markSteps_72 (by decide) ?_
                exact ih37 v49 v47 H locs ls G (iv_mono b51 (by decide) (by decide)) (by have := t52; have := m25; omega) (lv_sub hl [0, 1, 2, 3] rfl)
          exact LOOP37 6 0 v18 H locs ls G (iv_mono (iv_lit (lo := 0) (hi := 0) 0 (by decide) (by decide)) (by decide) (by decide)) (by have := (iv_lit (lo := 0) (hi := 0) 0 (by decide) (by decide)).1; omega) (lv_sub hl [0, 1, 2, 3] rfl)
        · skip
          have b53 : iv 1 60 y7 := lt_r (Int32.not_le.mp c16) (iv_lit (lo := 0) (hi := 0) 0 (by decide) (by decide)) b15 (by decide)
          refine lv_aload_n E.1 E.2.1 dX10_markSteps_16 rfl (lv_at hl 1 rfl) ?_
          refine t_get E G 10 11 (rfl : ro 0 = 10) (C := RX10) (T := TX10) (N := 17) rfl (by decide) (by decide) (by decide) mw_fl_10_76 (v := .ref (ad 324)) (fvl_o (n := 324) rfl) dX10_markSteps_17 ?_
          refine t_vi E G hl (c_goStep l D K ad zz8 oo9) 1 (rfl : ro 324 = 1) (by decide) rfl rfl 0 rfl mw_code_X1_goStep mw_ini_1 mw_ml_10_229 mw_inst_X1_goStep mw_sel_X1_goStep hd_X1_goStep ⟨Nat.le_trans (by decide) hfr, Nat.le_trans (by decide) hlo⟩ rfl rfl rfl (Nat.le_of_ble_eq_true rfl) dX10_markSteps_20 (fun r55 zz54 H locs hp56 G => ?_)
          obtain ⟨oo57, kk58⟩ := hp56
          have kk59 : KC z zz54 := KC.tr kk10 kk58
          refine lv_pop E.1 E.2.1 dX10_markSteps_23 rfl ?_
          refine lv_aload_n E.1 E.2.1 dX10_markSteps_24 rfl (lv_at hl 1 rfl) ?_
          refine t_get E G 10 11 (rfl : ro 0 = 10) (C := RX10) (T := TX10) (N := 17) rfl (by decide) (by decide) (by decide) mw_fl_10_76 (v := .ref (ad 324)) (fvl_o (n := 324) rfl) dX10_markSteps_25 ?_
          refine t_get E G 1 0 (rfl : ro 324 = 1) (C := RX1) (T := TX1) (N := 6) rfl (by decide) (by decide) (by decide) mw_fl_10_232 (v := .ref (ad 325)) (fvl_o (n := 1) rfl) dX10_markSteps_28 ?_
          refine t_get E G 6 6 (rfl : ro 325 = 6) (C := RX6) (T := TX6) (N := 8) rfl (by decide) (by decide) (by decide) mw_fl_10_204 (fvl_i rfl) dX10_markSteps_31 ?_
          refine lv_topi (fun v60 e61 => ?_)
          refine lv_istore_n (lv' := [(2, .int v60), (1, .int y7), (0, .ref (ad 0))]) E.1 E.2.1 dX10_markSteps_34 rfl hl (by decide) rfl (fun ls hl => ?_)
          refine lv_iconst (v := 0) E.1 E.2.1 dX10_markSteps_35 (by decide) ?_
          refine lv_istore_n (lv' := [(3, .int 0), (2, .int v60), (1, .int y7), (0, .ref (ad 0))]) E.1 E.2.1 dX10_markSteps_36 rfl hl (by decide) rfl (fun ls hl => ?_)
          have LOOP37 : ∀ n : Nat, ∀ (y62 : Int32) (y63 : Int32) (H : Heap) (locs : List Loc) (ls : Array Slot), mG D A s H locs (wd K ad zz54) → iv 0 5 y62 → 5 < y62.toInt + (n : Int) → lv_has ls 4 [(3, .int y62), (2, .int y63), (1, .int y7), (0, .ref (ad 0))] → W p l e R s m args below meth c H locs 0 0 Q (F0 m 37 ls []) := by
            intro n
            induction n with
            | zero =>
              intro y62 y63 H locs ls G b68 m67 hl
              exact absurd m67 (by have := b68.1; have := b68.2; omega)
            | succ n ih37 =>
              intro y62 y63 H locs ls G b68 m67 hl
              refine lv_iload_n E.1 E.2.1 dX10_markSteps_37 rfl (lv_at hl 0 rfl) ?_
              refine lv_aload_n E.1 E.2.1 dX10_markSteps_38 rfl (lv_at hl 3 rfl) ?_
              refine t_get E G 10 7 (rfl : ro 0 = 10) (C := RX10) (T := TX10) (N := 17) rfl (by decide) (by decide) (by decide) mw_fl_10_55 (v := .ref (ad 56)) (fvl_o (n := 56) rfl) dX10_markSteps_39 ?_
              refine t_get E G 2 0 (rfl : ro 56 = 2) (C := RX2) (T := TX2) (N := 5) rfl (by decide) (by decide) (by decide) mw_fl_10_114 (v := .ref (ad 57)) (fvl_o (n := 1) rfl) dX10_markSteps_42 ?_
              refine t_get E G 8 3 (rfl : ro 57 = 8) (C := RX8) (T := TX8) (N := 10) rfl (by decide) (by decide) (by decide) mw_fl_10_140 (fvl_i rfl) dX10_markSteps_45 ?_
              refine lv_topi (fun v69 e70 => ?_)
              have b71 : iv 0 5 v69 := by rw [e70]; exact oo57.i 8 3 (rfl : ro 57 = 8)
              refine lv_icmp_ge (tgt := 75) E.1 E.2.1 dX10_markSteps_48 (by decide) (fun c72 => ?_) (fun c72 => ?_)
              · skip
                refine lv_aload_n E.1 E.2.1 dX10_markSteps_75 rfl (lv_at hl 3 rfl) ?_
                refine t_get E G 10 14 (rfl : ro 0 = 10) (C := RX10) (T := TX10) (N := 17) rfl (by decide) (by decide) (by decide) mw_fl_10_91 (v := .ref (ad 343)) (fvl_o (n := 343) rfl) dX10_markSteps_76 ?_
                refine lv_iload_n E.1 E.2.1 dX10_markSteps_79 rfl (lv_at hl 2 rfl) ?_
                refine lv_iload_n E.1 E.2.1 dX10_markSteps_80 rfl (lv_at hl 1 rfl) ?_
                refine t_iast E G 43 (rfl : ro 343 = 43) (by decide) (by decide) rfl (n := 61) rfl (iv_vp b53 (by decide) (by decide)) dX10_markSteps_81 (fun H locs G => ?_)
                obtain ⟨zz73, G, oo74, kk75, h76, h77⟩ : ∃ u : TS, mG D A s H locs (wd K ad u) ∧ Ok u ∧ KC z u ∧ tI u 325 6 = v60 ∧ tI u 57 3 = v69 := ⟨_, G, ok_uc oo57 43 (rfl : ro 343 = 43) (by decide) (iv_mono (iv_full y63) (by decide) (by decide)) (by decide), KC.tr kk59 (KC_r 43 (rfl : ro 343 = 43) (by decide)), e61.symm, e70.symm⟩
                obtain ⟨v78, e79⟩ : ∃ w : Int32, w = y7 + (1 : Int32) := ⟨_, rfl⟩
                refine lv_iinc (v := v78) (lv' := [(1, .int v78), (3, .int y62), (2, .int y63), (0, .ref (ad 0))]) E.1 E.2.1 dX10_markSteps_82 hl (k := 2) rfl (by rw [e79]; rfl) (by decide) rfl (fun ls hl => ?_)
                have b80 : iv 2 61 v78 := by rw [e79]; exact iv_add b53 (iv_lit (lo := 1) (hi := 1) 1 (by decide) (by decide)) (by decide) (by decide) (by decide) (by decide)
                have t81 : v78.toInt = y7.toInt + 1 := by rw [e79]; exact ti_addc 1 (by decide) b53 (by decide) (by decide)
                refine lv_goto (tgt := 6) E.1 E.2.1 dX10_markSteps_85 (by decide) ?_
                exact ih6 zz73 v78 H locs ls G oo74 kk75 (iv_mono b80 (by decide) (by decide)) (by have := t81; have := m11; omega) (lv_sub hl [0, 3] rfl)
              · skip
                have b82 : iv 0 4 y62 := lt_l (Int32.not_le.mp c72) b68 b71 (by decide)
                have b83 : iv 1 5 v69 := lt_r (Int32.not_le.mp c72) b68 b71 (by decide)
                refine lv_iload_n E.1 E.2.1 dX10_markSteps_51 rfl (lv_at hl 1 rfl) ?_
                refine lv_bipush (v := 8) E.1 E.2.1 dX10_markSteps_52 (by decide) ?_
                refine lv_imul E.1 E.2.1 dX10_markSteps_54 ?_
                refine lv_topi (fun v84 e85 => ?_)
                refine lv_aload_n E.1 E.2.1 dX10_markSteps_55 rfl (lv_at hl 3 rfl) ?_
                refine t_get E G 10 11 (rfl : ro 0 = 10) (C := RX10) (T := TX10) (N := 17) rfl (by decide) (by decide) (by decide) mw_fl_10_76 (v := .ref (ad 324)) (fvl_o (n := 324) rfl) dX10_markSteps_56 ?_
                refine t_get E G 1 0 (rfl : ro 324 = 1) (C := RX1) (T := TX1) (N := 6) rfl (by decide) (by decide) (by decide) mw_fl_10_232 (v := .ref (ad 325)) (fvl_o (n := 1) rfl) dX10_markSteps_59 ?_
                refine t_get E G 6 0 (rfl : ro 325 = 6) (C := RX6) (T := TX6) (N := 8) rfl (by decide) (by decide) (by decide) mw_fl_10_171 (v := .ref (ad 326)) (fvl_o (n := 1) rfl) dX10_markSteps_62 ?_
                refine lv_iload_n E.1 E.2.1 dX10_markSteps_65 rfl (lv_at hl 0 rfl) ?_
                refine t_iald E G 21 (rfl : ro 326 = 21) (by decide) (by decide) rfl (n := 5) rfl (iv_vp b82 (by decide) (by decide)) dX10_markSteps_66 ?_
                refine lv_topi (fun v86 e87 => ?_)
                have b88 : iv 0 7 v86 := by rw [e87]; exact oo57.ac 21 (rfl : ro 326 = 21) (by decide) _
                refine lv_iadd E.1 E.2.1 dX10_markSteps_67 ?_
                refine lv_topi (fun v89 e90 => ?_)
                refine lv_istore_n (lv' := [(2, .int v89), (3, .int y62), (1, .int y7), (0, .ref (ad 0))]) E.1 E.2.1 dX10_markSteps_68 rfl hl (by decide) rfl (fun ls hl => ?_)
                obtain ⟨v91, e92⟩ : ∃ w : Int32, w = y62 + (1 : Int32) := ⟨_, rfl⟩
                refine lv_iinc (v := v91) (lv' := [(3, .int v91), (2, .int v89), (1, .int y7), (0, .ref (ad 0))]) E.1 E.2.1 dX10_markSteps_69 hl (k := 1) rfl (by rw [e92]; rfl) (by decide) rfl (fun ls hl => ?_)
                have b93 : iv 1 5 v91 := by rw [e92]; exact iv_add b82 (iv_lit (lo := 1) (hi := 1) 1 (by decide) (by decide)) (by decide) (by decide) (by decide) (by decide)
                have t94 : v91.toInt = y62.toInt + 1 := by rw [e92]; exact ti_addc 1 (by decide) b82 (by decide) (by decide)
                refine lv_goto (tgt := 37) E.1 E.2.1 dX10_markSteps_72 (by decide) ?_
                exact ih37 v91 v89 H locs ls G (iv_mono b93 (by decide) (by decide)) (by have := t94; have := m67; omega) (lv_sub hl [0, 1, 2, 3] rfl)
          exact LOOP37 6 0 v60 H locs ls G (iv_mono (iv_lit (lo := 0) (hi := 0) 0 (by decide) (by decide)) (by decide) (by decide)) (by have := (iv_lit (lo := 0) (hi := 0) 0 (by decide) (by decide)).1; omega) (lv_sub hl [0, 1, 2, 3] rfl)
  exact LOOP6 62 zz1 0 H locs ls G oo4 kk6 (iv_mono (iv_lit (lo := 0) (hi := 0) 0 (by decide) (by decide)) (by decide) (by decide)) (by have := (iv_lit (lo := 0) (hi := 0) 0 (by decide) (by decide)).1; omega) (lv_sub hl [0, 1] rfl)
set_option maxHeartbeats 4000000 in
set_option maxRecDepth 100000 in
theorem k_goDrawn (l : Launch) (D : va_G) (K : Nat → ClassId) (ad : Nat → Nat) (z : TS) (o : Ok z) (x1 : Int32) (bx1 : iv 1 60 x1) (x2 : Int32) (w1 : Int64) : cL l yX10_goDrawn cX10_goDrawn 7 ({ frames := 5, cells := 0, slots := 0, locals := 124 }) D K ad z [.ref (ad 0), .int x1, .int x2, .long w1] (fun r u => Ok u ∧ KC z u) := by
  refine t_enterL (by decide) (Nat.le_of_ble_eq_true rfl) rfl rfl ?_
  intro p e s m args below meth c A R Q H locs ls E hfr hlo RET G hl
  have E : mE p s m meth c cX10_goDrawn args 7 RX10 D K A := E
  have hl : lv_has ls 7 [(0, .ref (ad 0)), (1, .int x1), (2, .int x2), (3, .long w1)] := hl
  refine lv_aload_n E.1 E.2.1 dX10_goDrawn_0 rfl (lv_at hl 0 rfl) ?_
  refine t_get E G 10 7 (rfl : ro 0 = 10) (C := RX10) (T := TX10) (N := 17) rfl (by decide) (by decide) (by decide) mw_fl_10_55 (v := .ref (ad 56)) (fvl_o (n := 56) rfl) dX10_goDrawn_1 ?_
  refine t_get E G 2 0 (rfl : ro 56 = 2) (C := RX2) (T := TX2) (N := 5) rfl (by decide) (by decide) (by decide) mw_fl_10_114 (v := .ref (ad 57)) (fvl_o (n := 1) rfl) dX10_goDrawn_4 ?_
  refine t_get E G 8 2 (rfl : ro 57 = 8) (C := RX8) (T := TX8) (N := 10) rfl (by decide) (by decide) (by decide) mw_fl_10_198 (fvl_i rfl) dX10_goDrawn_7 ?_
  refine lv_topi (fun v1 e2 => ?_)
  have b3 : iv 0 6 v1 := by rw [e2]; exact o.i 8 2 (rfl : ro 57 = 8)
  refine lv_istore (lv' := [(5, .int v1), (0, .ref (ad 0)), (1, .int x1), (2, .int x2), (3, .long w1)]) E.1 E.2.1 dX10_goDrawn_10 hl (by decide) rfl (fun ls hl => ?_)
  refine lv_iconst (v := 0) E.1 E.2.1 dX10_goDrawn_12 (by decide) ?_
  refine lv_istore (lv' := [(6, .int 0), (5, .int v1), (0, .ref (ad 0)), (1, .int x1), (2, .int x2), (3, .long w1)]) E.1 E.2.1 dX10_goDrawn_13 hl (by decide) rfl (fun ls hl => ?_)
  have LOOP15 : ∀ n : Nat, ∀ (zz6 : TS) (y4 : Int32) (y5 : Int64) (H : Heap) (locs : List Loc) (ls : Array Slot), mG D A s H locs (wd K ad zz6) → Ok zz6 → KC z zz6 → iv 0 60 y4 → 60 < y4.toInt + (n : Int) → lv_has ls 7 [(6, .int y4), (5, .int v1), (0, .ref (ad 0)), (1, .int x1), (2, .int x2), (3, .long y5)] → W p l e R s m args below meth c H locs 0 0 Q (F0 m 15 ls []) := by
    intro n
    induction n with
    | zero =>
      intro zz6 y4 y5 H locs ls G oo7 kk8 b10 m9 hl
      exact absurd m9 (by have := b10.1; have := b10.2; omega)
    | succ n ih15 =>
      intro zz6 y4 y5 H locs ls G oo7 kk8 b10 m9 hl
      refine lv_iload E.1 E.2.1 dX10_goDrawn_15 (lv_at hl 0 rfl) ?_
      refine lv_iload_n E.1 E.2.1 dX10_goDrawn_17 rfl (lv_at hl 3 rfl) ?_
      refine lv_icmp_ge (tgt := 85) E.1 E.2.1 dX10_goDrawn_18 (by decide) (fun c11 => ?_) (fun c11 => ?_)
      · skip
        have b12 : iv 1 60 y4 := le_r c11 bx1 b10 (by decide)
        refine lv_lload_n E.1 E.2.1 dX10_goDrawn_85 rfl (lv_at hl 5 rfl) ?_
        exact RET G ⟨oo7, kk8⟩ dX10_goDrawn_86
      · skip
        have b13 : iv 0 59 y4 := lt_l (Int32.not_le.mp c11) b10 bx1 (by decide)
        refine lv_lload_n E.1 E.2.1 dX10_goDrawn_21 rfl (lv_at hl 5 rfl) ?_
        refine t_sl E G hl (k_drawn l D K ad zz6 oo7 y5) 1 rfl mw_code_X10_drawn mw_ini_10 mw_ml_10_263 mw_stat_X10_drawn hd_X10_drawn ⟨Nat.le_trans (by decide) hfr, Nat.le_trans (by decide) hlo⟩ rfl rfl rfl (Nat.le_of_ble_eq_true rfl) dX10_goDrawn_22 (fun r15 zz14 H locs hp16 G => ?_)
        have hz17 := hp16
        rw [hz17] at G
        refine lv_lstore_n (lv' := [(3, .long r15), (6, .int y4), (5, .int v1), (0, .ref (ad 0)), (1, .int x1), (2, .int x2)]) E.1 E.2.1 dX10_goDrawn_25 rfl hl (by decide) rfl (fun ls hl => ?_)
        refine lv_lload_n E.1 E.2.1 dX10_goDrawn_26 rfl (lv_at hl 0 rfl) ?_
        refine lv_ldc2 (v := 65536) E.1 E.2.1 E.2.2.2.1 (E.2.2.2.2.1 _ mw_cL_10_267) dX10_goDrawn_27 ?_
        refine lv_ldiv E.1 E.2.1 dX10_goDrawn_30 (by decide) ?_
        refine lv_topl (fun v18 _ => ?_)
        refine lv_ldc2 (v := 100) E.1 E.2.1 E.2.2.2.1 (E.2.2.2.2.1 _ mw_cL_10_269) dX10_goDrawn_31 ?_
        refine lv_lrem E.1 E.2.1 dX10_goDrawn_34 (by decide) ?_
        refine lv_topl (fun v19 _ => ?_)
        refine lv_iload_n E.1 E.2.1 dX10_goDrawn_35 rfl (lv_at hl 5 rfl) ?_
        refine lv_i2l E.1 E.2.1 dX10_goDrawn_36 rfl ?_
        refine lv_topl (fun v20 e21 => ?_)
        refine W.lcmp E.1 E.2.1 dX10_goDrawn_37 ?_
        refine lv_topi (fun v22 e23 => ?_)
        have b24 : iv (-1) 1 v22 := by rw [e23]; exact lgc_iv _ _
        refine lv_if_ge (tgt := 71) E.1 E.2.1 dX10_goDrawn_38 (by decide) (fun c25 => ?_) (fun c25 => ?_)
        · skip
          have b26 : iv 0 1 v22 := le_r c25 (iv_lit (lo := 0) (hi := 0) 0 (by decide) (by decide)) b24 (by decide)
          refine lv_aload_n E.1 E.2.1 dX10_goDrawn_71 rfl (lv_at hl 3 rfl) ?_
          refine t_get E G 10 11 (rfl : ro 0 = 10) (C := RX10) (T := TX10) (N := 17) rfl (by decide) (by decide) (by decide) mw_fl_10_76 (v := .ref (ad 324)) (fvl_o (n := 324) rfl) dX10_goDrawn_72 ?_
          refine t_vi E G hl (c_goStep l D K ad zz6 oo7) 1 (rfl : ro 324 = 1) (by decide) rfl rfl 0 rfl mw_code_X1_goStep mw_ini_1 mw_ml_10_229 mw_inst_X1_goStep mw_sel_X1_goStep hd_X1_goStep ⟨Nat.le_trans (by decide) hfr, Nat.le_trans (by decide) hlo⟩ rfl rfl rfl (Nat.le_of_ble_eq_true rfl) dX10_goDrawn_75 (fun r28 zz27 H locs hp29 G => ?_)
          obtain ⟨oo30, kk31⟩ := hp29
          have kk32 : KC z zz27 := KC.tr kk8 kk31
          refine lv_pop E.1 E.2.1 dX10_goDrawn_78 rfl ?_
          obtain ⟨v33, e34⟩ : ∃ w : Int32, w = y4 + (1 : Int32) := ⟨_, rfl⟩
          refine lv_iinc (v := v33) (lv' := [(6, .int v33), (3, .long r15), (5, .int v1), (0, .ref (ad 0)), (1, .int x1), (2, .int x2)]) E.1 E.2.1 dX10_goDrawn_79 hl (k := 1) rfl (by rw [e34]; rfl) (by decide) rfl (fun ls hl => ?_)
          have b35 : iv 1 60 v33 := by rw [e34]; exact iv_add b13 (iv_lit (lo := 1) (hi := 1) 1 (by decide) (by decide)) (by decide) (by decide) (by decide) (by decide)
          have t36 : v33.toInt = y4.toInt + 1 := by rw [e34]; exact ti_addc 1 (by decide) b13 (by decide) (by decide)
          refine lv_goto (tgt := 15) E.1 E.2.1 dX10_goDrawn_82 (by decide) ?_
          exact ih15 zz27 v33 r15 H locs ls G oo30 kk32 (iv_mono b35 (by decide) (by decide)) (by have := t36; have := m9; omega) (lv_sub hl [0, 2, 3, 4, 5, 1] rfl)
        · skip
          have b37 : iv (-1) (-1) v22 := lt_l (Int32.not_le.mp c25) b24 (iv_lit (lo := 0) (hi := 0) 0 (by decide) (by decide)) (by decide)
          refine lv_iload E.1 E.2.1 dX10_goDrawn_41 (lv_at hl 2 rfl) ?_
          refine lv_if_le (tgt := 71) E.1 E.2.1 dX10_goDrawn_43 (by decide) (fun c38 => ?_) (fun c38 => ?_)
          · skip
            have b39 : iv 0 0 v1 := le_l c38 b3 (iv_lit (lo := 0) (hi := 0) 0 (by decide) (by decide)) (by decide)
            refine lv_aload_n E.1 E.2.1 dX10_goDrawn_71 rfl (lv_at hl 3 rfl) ?_
            refine t_get E G 10 11 (rfl : ro 0 = 10) (C := RX10) (T := TX10) (N := 17) rfl (by decide) (by decide) (by decide) mw_fl_10_76 (v := .ref (ad 324)) (fvl_o (n := 324) rfl) dX10_goDrawn_72 ?_
            refine t_vi E G hl (c_goStep l D K ad zz6 oo7) 1 (rfl : ro 324 = 1) (by decide) rfl rfl 0 rfl mw_code_X1_goStep mw_ini_1 mw_ml_10_229 mw_inst_X1_goStep mw_sel_X1_goStep hd_X1_goStep ⟨Nat.le_trans (by decide) hfr, Nat.le_trans (by decide) hlo⟩ rfl rfl rfl (Nat.le_of_ble_eq_true rfl) dX10_goDrawn_75 (fun r41 zz40 H locs hp42 G => ?_)
            obtain ⟨oo43, kk44⟩ := hp42
            have kk45 : KC z zz40 := KC.tr kk8 kk44
            refine lv_pop E.1 E.2.1 dX10_goDrawn_78 rfl ?_
            obtain ⟨v46, e47⟩ : ∃ w : Int32, w = y4 + (1 : Int32) := ⟨_, rfl⟩
            refine lv_iinc (v := v46) (lv' := [(6, .int v46), (3, .long r15), (5, .int v1), (0, .ref (ad 0)), (1, .int x1), (2, .int x2)]) E.1 E.2.1 dX10_goDrawn_79 hl (k := 1) rfl (by rw [e47]; rfl) (by decide) rfl (fun ls hl => ?_)
            have b48 : iv 1 60 v46 := by rw [e47]; exact iv_add b13 (iv_lit (lo := 1) (hi := 1) 1 (by decide) (by decide)) (by decide) (by decide) (by decide) (by decide)
            have t49 : v46.toInt = y4.toInt + 1 := by rw [e47]; exact ti_addc 1 (by decide) b13 (by decide) (by decide)
            refine lv_goto (tgt := 15) E.1 E.2.1 dX10_goDrawn_82 (by decide) ?_
            exact ih15 zz40 v46 r15 H locs ls G oo43 kk45 (iv_mono b48 (by decide) (by decide)) (by have := t49; have := m9; omega) (lv_sub hl [0, 2, 3, 4, 5, 1] rfl)
          · skip
            have b50 : iv 1 6 v1 := lt_r (Int32.not_le.mp c38) (iv_lit (lo := 0) (hi := 0) 0 (by decide) (by decide)) b3 (by decide)
            refine lv_lload_n E.1 E.2.1 dX10_goDrawn_46 rfl (lv_at hl 0 rfl) ?_
            refine t_sl E G hl (k_drawn l D K ad zz6 oo7 r15) 1 rfl mw_code_X10_drawn mw_ini_10 mw_ml_10_263 mw_stat_X10_drawn hd_X10_drawn ⟨Nat.le_trans (by decide) hfr, Nat.le_trans (by decide) hlo⟩ rfl rfl rfl (Nat.le_of_ble_eq_true rfl) dX10_goDrawn_47 (fun r52 zz51 H locs hp53 G => ?_)
            have hz54 := hp53
            rw [hz54] at G
            refine lv_lstore_n (lv' := [(3, .long r52), (6, .int y4), (5, .int v1), (0, .ref (ad 0)), (1, .int x1), (2, .int x2)]) E.1 E.2.1 dX10_goDrawn_50 rfl hl (by decide) rfl (fun ls hl => ?_)
            refine lv_aload_n E.1 E.2.1 dX10_goDrawn_51 rfl (lv_at hl 3 rfl) ?_
            refine t_get E G 10 11 (rfl : ro 0 = 10) (C := RX10) (T := TX10) (N := 17) rfl (by decide) (by decide) (by decide) mw_fl_10_76 (v := .ref (ad 324)) (fvl_o (n := 324) rfl) dX10_goDrawn_52 ?_
            refine t_get E G 1 0 (rfl : ro 324 = 1) (C := RX1) (T := TX1) (N := 6) rfl (by decide) (by decide) (by decide) mw_fl_10_232 (v := .ref (ad 325)) (fvl_o (n := 1) rfl) dX10_goDrawn_55 ?_
            refine lv_lload_n E.1 E.2.1 dX10_goDrawn_58 rfl (lv_at hl 0 rfl) ?_
            refine lv_ldc2 (v := 65536) E.1 E.2.1 E.2.2.2.1 (E.2.2.2.2.1 _ mw_cL_10_267) dX10_goDrawn_59 ?_
            refine lv_ldiv E.1 E.2.1 dX10_goDrawn_62 (by decide) ?_
            refine lv_topl (fun v55 _ => ?_)
            refine lv_iload E.1 E.2.1 dX10_goDrawn_63 (lv_at hl 2 rfl) ?_
            refine lv_i2l E.1 E.2.1 dX10_goDrawn_65 rfl ?_
            refine lv_topl (fun v56 e57 => ?_)
            refine lv_lrem E.1 E.2.1 dX10_goDrawn_66 (by rw [e57]; exact i2l_ne b50 (by decide)) ?_
            refine lv_topl (fun v58 _ => ?_)
            refine lv_l2i E.1 E.2.1 dX10_goDrawn_67 rfl ?_
            refine lv_topi (fun v59 e60 => ?_)
            refine t_vv E G hl (s_setAgain l D K ad zz6 oo7 325 (by decide : at_ 6 325 = true) v59) 6 (rfl : ro 325 = 6) (by decide) rfl rfl 1 rfl mw_code_X6_setAgain mw_ini_6 mw_ml_10_233 mw_inst_X6_setAgain mw_sel_X6_setAgain hd_X6_setAgain ⟨Nat.le_trans (by decide) hfr, Nat.le_trans (by decide) hlo⟩ rfl rfl rfl (Nat.le_of_ble_eq_true rfl) dX10_goDrawn_68 (fun zz61 H locs hp63 G => ?_)
            obtain ⟨oo64, kk65⟩ := hp63
            have kk66 : KC z zz61 := KC.tr kk8 (KS.c kk65)
            refine lv_aload_n E.1 E.2.1 dX10_goDrawn_71 rfl (lv_at hl 3 rfl) ?_
            refine t_get E G 10 11 (rfl : ro 0 = 10) (C := RX10) (T := TX10) (N := 17) rfl (by decide) (by decide) (by decide) mw_fl_10_76 (v := .ref (ad 324)) (fvl_o (n := 324) rfl) dX10_goDrawn_72 ?_
            refine t_vi E G hl (c_goStep l D K ad zz61 oo64) 1 (rfl : ro 324 = 1) (by decide) rfl rfl 0 rfl mw_code_X1_goStep mw_ini_1 mw_ml_10_229 mw_inst_X1_goStep mw_sel_X1_goStep hd_X1_goStep ⟨Nat.le_trans (by decide) hfr, Nat.le_trans (by decide) hlo⟩ rfl rfl rfl (Nat.le_of_ble_eq_true rfl) dX10_goDrawn_75 (fun r68 zz67 H locs hp69 G => ?_)
            obtain ⟨oo70, kk71⟩ := hp69
            have kk72 : KC z zz67 := KC.tr kk66 kk71
            refine lv_pop E.1 E.2.1 dX10_goDrawn_78 rfl ?_
            obtain ⟨v73, e74⟩ : ∃ w : Int32, w = y4 + (1 : Int32) := ⟨_, rfl⟩
            refine lv_iinc (v := v73) (lv' := [(6, .int v73), (3, .long r52), (5, .int v1), (0, .ref (ad 0)), (1, .int x1), (2, .int x2)]) E.1 E.2.1 dX10_goDrawn_79 hl (k := 1) rfl (by rw [e74]; rfl) (by decide) rfl (fun ls hl => ?_)
            have b75 : iv 1 60 v73 := by rw [e74]; exact iv_add b13 (iv_lit (lo := 1) (hi := 1) 1 (by decide) (by decide)) (by decide) (by decide) (by decide) (by decide)
            have t76 : v73.toInt = y4.toInt + 1 := by rw [e74]; exact ti_addc 1 (by decide) b13 (by decide) (by decide)
            refine lv_goto (tgt := 15) E.1 E.2.1 dX10_goDrawn_82 (by decide) ?_
            exact ih15 zz67 v73 r52 H locs ls G oo70 kk72 (iv_mono b75 (by decide) (by decide)) (by have := t76; have := m9; omega) (lv_sub hl [0, 2, 3, 4, 5, 1] rfl)
  exact LOOP15 61 z 0 w1 H locs ls G o KC.rf (iv_mono (iv_lit (lo := 0) (hi := 0) 0 (by decide) (by decide)) (by decide) (by decide)) (by have := (iv_lit (lo := 0) (hi := 0) 0 (by decide) (by decide)).1; omega) (lv_sub hl [0, 1, 2, 3, 4, 5] rfl)
set_option maxHeartbeats 4000000 in
set_option maxRecDepth 100000 in
theorem k_notesAreSo (l : Launch) (D : va_G) (K : Nat → ClassId) (ad : Nat → Nat) (z : TS) (o : Ok z) (p0 : Nat) (ap0 : at_ 4 p0 = true) (p1 : Nat) (ap1 : at_ 6 p1 = true) : cI l yX10_notesAreSo cX10_notesAreSo 5 .boolean ({ frames := 5, cells := 0, slots := 0, locals := 124 }) D K ad z [.ref (ad 0), .ref (ad p0), .ref (ad p1)] (fun r u => Ok u ∧ KC z u ∧ iv 0 1 r) := by
  refine t_enterI (by decide) (Nat.le_of_ble_eq_true rfl) rfl rfl ?_
  intro p e s m args below meth c A R Q H locs ls E hfr hlo RET G hl
  have E : mE p s m meth c cX10_notesAreSo args 5 RX10 D K A := E
  have hl : lv_has ls 5 [(0, .ref (ad 0)), (1, .ref (ad p0)), (2, .ref (ad p1))] := hl
  refine lv_aload_n E.1 E.2.1 dX10_notesAreSo_0 rfl (lv_at hl 0 rfl) ?_
  refine t_get E G 10 11 (rfl : ro 0 = 10) (C := RX10) (T := TX10) (N := 17) rfl (by decide) (by decide) (by decide) mw_fl_10_76 (v := .ref (ad 324)) (fvl_o (n := 324) rfl) dX10_notesAreSo_1 ?_
  refine lv_aload_n E.1 E.2.1 dX10_notesAreSo_4 rfl (lv_at hl 0 rfl) ?_
  refine t_get E G 10 7 (rfl : ro 0 = 10) (C := RX10) (T := TX10) (N := 17) rfl (by decide) (by decide) (by decide) mw_fl_10_55 (v := .ref (ad 56)) (fvl_o (n := 56) rfl) dX10_notesAreSo_5 ?_
  refine t_get E G 2 0 (rfl : ro 56 = 2) (C := RX2) (T := TX2) (N := 5) rfl (by decide) (by decide) (by decide) mw_fl_10_114 (v := .ref (ad 57)) (fvl_o (n := 1) rfl) dX10_notesAreSo_8 ?_
  refine lv_aload_n E.1 E.2.1 dX10_notesAreSo_11 rfl (lv_at hl 1 rfl) ?_
  refine lv_aload_n E.1 E.2.1 dX10_notesAreSo_12 rfl (lv_at hl 2 rfl) ?_
  refine t_vv E G hl (c_start l D K ad z o 57 (by decide : at_ 8 57 = true) p0 ap0 p1 ap1) 1 (rfl : ro 324 = 1) (by decide) rfl rfl 3 rfl mw_code_X1_start mw_ini_1 mw_ml_10_299 mw_inst_X1_start mw_sel_X1_start hd_X1_start ⟨Nat.le_trans (by decide) hfr, Nat.le_trans (by decide) hlo⟩ rfl rfl rfl (Nat.le_of_ble_eq_true rfl) dX10_notesAreSo_13 (fun zz1 H locs hp3 G => ?_)
  obtain ⟨oo4, kk5⟩ := hp3
  have kk6 : KC z zz1 := KC.tr KC.rf kk5
  refine lv_aload_n E.1 E.2.1 dX10_notesAreSo_16 rfl (lv_at hl 0 rfl) ?_
  refine t_get E G 10 7 (rfl : ro 0 = 10) (C := RX10) (T := TX10) (N := 17) rfl (by decide) (by decide) (by decide) mw_fl_10_55 (v := .ref (ad 56)) (fvl_o (n := 56) rfl) dX10_notesAreSo_17 ?_
  refine t_get E G 2 2 (rfl : ro 56 = 2) (C := RX2) (T := TX2) (N := 5) rfl (by decide) (by decide) (by decide) mw_fl_10_130 (v := .ref (ad 77)) (fvl_o (n := 21) rfl) dX10_notesAreSo_20 ?_
  refine t_vi E G hl (n_last l D K ad zz1 oo4 77 (by decide : at_ 3 77 = true)) 3 (rfl : ro 77 = 3) (by decide) rfl rfl 0 rfl mw_code_X3_lastStep mw_ini_3 mw_ml_10_341 mw_inst_X3_lastStep mw_sel_X3_lastStep hd_X3_lastStep ⟨Nat.le_trans (by decide) hfr, Nat.le_trans (by decide) hlo⟩ rfl rfl rfl (Nat.le_of_ble_eq_true rfl) dX10_notesAreSo_23 (fun r8 zz7 H locs hp9 G => ?_)
  obtain ⟨hz11, b10⟩ := hp9
  rw [hz11] at G
  refine lv_istore_n (lv' := [(3, .int r8), (0, .ref (ad 0)), (1, .ref (ad p0)), (2, .ref (ad p1))]) E.1 E.2.1 dX10_notesAreSo_26 rfl hl (by decide) rfl (fun ls hl => ?_)
  refine lv_iconst (v := 0) E.1 E.2.1 dX10_notesAreSo_27 (by decide) ?_
  refine lv_istore (lv' := [(4, .int 0), (3, .int r8), (0, .ref (ad 0)), (1, .ref (ad p0)), (2, .ref (ad p1))]) E.1 E.2.1 dX10_notesAreSo_28 hl (by decide) rfl (fun ls hl => ?_)
  have LOOP30 : ∀ n : Nat, ∀ (zz13 : TS) (y12 : Int32) (H : Heap) (locs : List Loc) (ls : Array Slot), mG D A s H locs (wd K ad zz13) → Ok zz13 → KC z zz13 → iv 0 61 y12 → 61 < y12.toInt + (n : Int) → lv_has ls 5 [(4, .int y12), (3, .int r8), (0, .ref (ad 0)), (1, .ref (ad p0)), (2, .ref (ad p1))] → W p l e R s m args below meth c H locs 0 0 Q (F0 m 30 ls []) := by
    intro n
    induction n with
    | zero =>
      intro zz13 y12 H locs ls G oo14 kk15 b17 m16 hl
      exact absurd m16 (by have := b17.1; have := b17.2; omega)
    | succ n ih30 =>
      intro zz13 y12 H locs ls G oo14 kk15 b17 m16 hl
      refine lv_iload E.1 E.2.1 dX10_notesAreSo_30 (lv_at hl 0 rfl) ?_
      refine lv_iload_n E.1 E.2.1 dX10_notesAreSo_32 rfl (lv_at hl 1 rfl) ?_
      refine lv_icmp_gt (tgt := 79) E.1 E.2.1 dX10_notesAreSo_33 (by decide) (fun c18 => ?_) (fun c18 => ?_)
      · skip
        refine lv_iconst (v := 1) E.1 E.2.1 dX10_notesAreSo_79 (by decide) ?_
        exact RET G ⟨oo14, kk15, (iv_mono (iv_lit (lo := 1) (hi := 1) 1 (by decide) (by decide)) (by decide) (by decide))⟩ (by decide) dX10_notesAreSo_80
      · skip
        have b19 : iv 0 60 y12 := le_l (Int32.not_lt.mp c18) b17 b10 (by decide)
        have b20 : iv 0 60 r8 := le_r (Int32.not_lt.mp c18) b17 b10 (by decide)
        refine lv_iload E.1 E.2.1 dX10_notesAreSo_36 (lv_at hl 0 rfl) ?_
        refine lv_if_le (tgt := 49) E.1 E.2.1 dX10_notesAreSo_38 (by decide) (fun c21 => ?_) (fun c21 => ?_)
        · skip
          have b22 : iv 0 0 y12 := le_l c21 b19 (iv_lit (lo := 0) (hi := 0) 0 (by decide) (by decide)) (by decide)
          refine lv_aload_n E.1 E.2.1 dX10_notesAreSo_49 rfl (lv_at hl 2 rfl) ?_
          refine t_get E G 10 7 (rfl : ro 0 = 10) (C := RX10) (T := TX10) (N := 17) rfl (by decide) (by decide) (by decide) mw_fl_10_55 (v := .ref (ad 56)) (fvl_o (n := 56) rfl) dX10_notesAreSo_50 ?_
          refine t_get E G 2 2 (rfl : ro 56 = 2) (C := RX2) (T := TX2) (N := 5) rfl (by decide) (by decide) (by decide) mw_fl_10_130 (v := .ref (ad 77)) (fvl_o (n := 21) rfl) dX10_notesAreSo_53 ?_
          refine lv_iload E.1 E.2.1 dX10_notesAreSo_56 (lv_at hl 0 rfl) ?_
          refine lv_aload_n E.1 E.2.1 dX10_notesAreSo_58 rfl (lv_at hl 2 rfl) ?_
          refine t_get E G 10 11 (rfl : ro 0 = 10) (C := RX10) (T := TX10) (N := 17) rfl (by decide) (by decide) (by decide) mw_fl_10_76 (v := .ref (ad 324)) (fvl_o (n := 324) rfl) dX10_notesAreSo_59 ?_
          refine t_get E G 1 0 (rfl : ro 324 = 1) (C := RX1) (T := TX1) (N := 6) rfl (by decide) (by decide) (by decide) mw_fl_10_232 (v := .ref (ad 325)) (fvl_o (n := 1) rfl) dX10_notesAreSo_62 ?_
          refine t_vi E G hl (n_so l D K ad zz13 oo14 77 (by decide : at_ 3 77 = true) 325 (by decide : at_ 6 325 = true) y12) 3 (rfl : ro 77 = 3) (by decide) rfl rfl 2 rfl mw_code_X3_areSoBehind mw_ini_3 mw_ml_10_344 mw_inst_X3_areSoBehind mw_sel_X3_areSoBehind hd_X3_areSoBehind ⟨Nat.le_trans (by decide) hfr, Nat.le_trans (by decide) hlo⟩ rfl rfl rfl (Nat.le_of_ble_eq_true rfl) dX10_notesAreSo_65 (fun r24 zz23 H locs hp25 G => ?_)
          obtain ⟨hz27, b26⟩ := hp25
          rw [hz27] at G
          refine lv_if_ne (tgt := 73) E.1 E.2.1 dX10_notesAreSo_68 (by decide) (fun c28 => ?_) (fun c28 => ?_)
          · skip
            have b29 : iv 1 1 r24 := ne_lo c28 b26 (by decide) (by decide)
            obtain ⟨v30, e31⟩ : ∃ w : Int32, w = y12 + (1 : Int32) := ⟨_, rfl⟩
            refine lv_iinc (v := v30) (lv' := [(4, .int v30), (3, .int r8), (0, .ref (ad 0)), (1, .ref (ad p0)), (2, .ref (ad p1))]) E.1 E.2.1 dX10_notesAreSo_73 hl (k := 0) rfl (by rw [e31]; rfl) (by decide) rfl (fun ls hl => ?_)
            have b32 : iv 1 1 v30 := by rw [e31]; exact iv_add b22 (iv_lit (lo := 1) (hi := 1) 1 (by decide) (by decide)) (by decide) (by decide) (by decide) (by decide)
            have t33 : v30.toInt = y12.toInt + 1 := by rw [e31]; exact ti_addc 1 (by decide) b22 (by decide) (by decide)
            refine lv_goto (tgt := 30) E.1 E.2.1 dX10_notesAreSo_76 (by decide) ?_
            exact ih30 zz13 v30 H locs ls G oo14 kk15 (iv_mono b32 (by decide) (by decide)) (by have := t33; have := m16; omega) (lv_sub hl [0, 1, 2, 3, 4] rfl)
          · skip
            have b34 : iv 0 0 r24 := iv_eq c28 (iv_lit (lo := 0) (hi := 0) 0 (by decide) (by decide))
            refine lv_iconst (v := 0) E.1 E.2.1 dX10_notesAreSo_71 (by decide) ?_
            exact RET G ⟨oo14, kk15, (iv_mono (iv_lit (lo := 0) (hi := 0) 0 (by decide) (by decide)) (by decide) (by decide))⟩ (by decide) dX10_notesAreSo_72
        · skip
          have b35 : iv 1 60 y12 := lt_r (Int32.not_le.mp c21) (iv_lit (lo := 0) (hi := 0) 0 (by decide) (by decide)) b19 (by decide)
          refine lv_aload_n E.1 E.2.1 dX10_notesAreSo_41 rfl (lv_at hl 2 rfl) ?_
          refine t_get E G 10 11 (rfl : ro 0 = 10) (C := RX10) (T := TX10) (N := 17) rfl (by decide) (by decide) (by decide) mw_fl_10_76 (v := .ref (ad 324)) (fvl_o (n := 324) rfl) dX10_notesAreSo_42 ?_
          refine t_vi E G hl (c_goStep l D K ad zz13 oo14) 1 (rfl : ro 324 = 1) (by decide) rfl rfl 0 rfl mw_code_X1_goStep mw_ini_1 mw_ml_10_229 mw_inst_X1_goStep mw_sel_X1_goStep hd_X1_goStep ⟨Nat.le_trans (by decide) hfr, Nat.le_trans (by decide) hlo⟩ rfl rfl rfl (Nat.le_of_ble_eq_true rfl) dX10_notesAreSo_45 (fun r37 zz36 H locs hp38 G => ?_)
          obtain ⟨oo39, kk40⟩ := hp38
          have kk41 : KC z zz36 := KC.tr kk15 kk40
          refine lv_pop E.1 E.2.1 dX10_notesAreSo_48 rfl ?_
          refine lv_aload_n E.1 E.2.1 dX10_notesAreSo_49 rfl (lv_at hl 2 rfl) ?_
          refine t_get E G 10 7 (rfl : ro 0 = 10) (C := RX10) (T := TX10) (N := 17) rfl (by decide) (by decide) (by decide) mw_fl_10_55 (v := .ref (ad 56)) (fvl_o (n := 56) rfl) dX10_notesAreSo_50 ?_
          refine t_get E G 2 2 (rfl : ro 56 = 2) (C := RX2) (T := TX2) (N := 5) rfl (by decide) (by decide) (by decide) mw_fl_10_130 (v := .ref (ad 77)) (fvl_o (n := 21) rfl) dX10_notesAreSo_53 ?_
          refine lv_iload E.1 E.2.1 dX10_notesAreSo_56 (lv_at hl 0 rfl) ?_
          refine lv_aload_n E.1 E.2.1 dX10_notesAreSo_58 rfl (lv_at hl 2 rfl) ?_
          refine t_get E G 10 11 (rfl : ro 0 = 10) (C := RX10) (T := TX10) (N := 17) rfl (by decide) (by decide) (by decide) mw_fl_10_76 (v := .ref (ad 324)) (fvl_o (n := 324) rfl) dX10_notesAreSo_59 ?_
          refine t_get E G 1 0 (rfl : ro 324 = 1) (C := RX1) (T := TX1) (N := 6) rfl (by decide) (by decide) (by decide) mw_fl_10_232 (v := .ref (ad 325)) (fvl_o (n := 1) rfl) dX10_notesAreSo_62 ?_
          refine t_vi E G hl (n_so l D K ad zz36 oo39 77 (by decide : at_ 3 77 = true) 325 (by decide : at_ 6 325 = true) y12) 3 (rfl : ro 77 = 3) (by decide) rfl rfl 2 rfl mw_code_X3_areSoBehind mw_ini_3 mw_ml_10_344 mw_inst_X3_areSoBehind mw_sel_X3_areSoBehind hd_X3_areSoBehind ⟨Nat.le_trans (by decide) hfr, Nat.le_trans (by decide) hlo⟩ rfl rfl rfl (Nat.le_of_ble_eq_true rfl) dX10_notesAreSo_65 (fun r43 zz42 H locs hp44 G => ?_)
          obtain ⟨hz46, b45⟩ := hp44
          rw [hz46] at G
          refine lv_if_ne (tgt := 73) E.1 E.2.1 dX10_notesAreSo_68 (by decide) (fun c47 => ?_) (fun c47 => ?_)
          · skip
            have b48 : iv 1 1 r43 := ne_lo c47 b45 (by decide) (by decide)
            obtain ⟨v49, e50⟩ : ∃ w : Int32, w = y12 + (1 : Int32) := ⟨_, rfl⟩
            refine lv_iinc (v := v49) (lv' := [(4, .int v49), (3, .int r8), (0, .ref (ad 0)), (1, .ref (ad p0)), (2, .ref (ad p1))]) E.1 E.2.1 dX10_notesAreSo_73 hl (k := 0) rfl (by rw [e50]; rfl) (by decide) rfl (fun ls hl => ?_)
            have b51 : iv 2 61 v49 := by rw [e50]; exact iv_add b35 (iv_lit (lo := 1) (hi := 1) 1 (by decide) (by decide)) (by decide) (by decide) (by decide) (by decide)
            have t52 : v49.toInt = y12.toInt + 1 := by rw [e50]; exact ti_addc 1 (by decide) b35 (by decide) (by decide)
            refine lv_goto (tgt := 30) E.1 E.2.1 dX10_notesAreSo_76 (by decide) ?_
            exact ih30 zz36 v49 H locs ls G oo39 kk41 (iv_mono b51 (by decide) (by decide)) (by have := t52; have := m16; omega) (lv_sub hl [0, 1, 2, 3, 4] rfl)
          · skip
            have b53 : iv 0 0 r43 := iv_eq c47 (iv_lit (lo := 0) (hi := 0) 0 (by decide) (by decide))
            refine lv_iconst (v := 0) E.1 E.2.1 dX10_notesAreSo_71 (by decide) ?_
            exact RET G ⟨oo39, kk41, (iv_mono (iv_lit (lo := 0) (hi := 0) 0 (by decide) (by decide)) (by decide) (by decide))⟩ (by decide) dX10_notesAreSo_72
  exact LOOP30 62 zz1 0 H locs ls G oo4 kk6 (iv_mono (iv_lit (lo := 0) (hi := 0) 0 (by decide) (by decide)) (by decide) (by decide)) (by have := (iv_lit (lo := 0) (hi := 0) 0 (by decide) (by decide)).1; omega) (lv_sub hl [0, 1, 2, 3, 4] rfl)
set_option maxHeartbeats 4000000 in
set_option maxRecDepth 100000 in
theorem k_mostAlike (l : Launch) (D : va_G) (K : Nat → ClassId) (ad : Nat → Nat) (z : TS) (o : Ok z) (x1 : Int32) (bx1 : iv 0 4 x1) : cI l yX10_mostAlike cX10_mostAlike 4 .int ({ frames := 1, cells := 0, slots := 0, locals := 21 }) D K ad z [.ref (ad 0), .int x1] (fun r u => u = z) := by
  refine t_enterI (by decide) (Nat.le_of_ble_eq_true rfl) rfl rfl ?_
  intro p e s m args below meth c A R Q H locs ls E hfr hlo RET G hl
  have E : mE p s m meth c cX10_mostAlike args 4 RX10 D K A := E
  have hl : lv_has ls 4 [(0, .ref (ad 0)), (1, .int x1)] := hl
  refine lv_iconst (v := 0) E.1 E.2.1 dX10_mostAlike_0 (by decide) ?_
  refine lv_istore_n (lv' := [(2, .int 0), (0, .ref (ad 0)), (1, .int x1)]) E.1 E.2.1 dX10_mostAlike_1 rfl hl (by decide) rfl (fun ls hl => ?_)
  refine lv_iconst (v := 0) E.1 E.2.1 dX10_mostAlike_2 (by decide) ?_
  refine lv_istore_n (lv' := [(3, .int 0), (2, .int 0), (0, .ref (ad 0)), (1, .int x1)]) E.1 E.2.1 dX10_mostAlike_3 rfl hl (by decide) rfl (fun ls hl => ?_)
  have LOOP4 : ∀ n : Nat, ∀ (y1 : Int32) (y2 : Int32) (H : Heap) (locs : List Loc) (ls : Array Slot), mG D A s H locs (wd K ad z) → iv 0 8 y1 → 8 < y1.toInt + (n : Int) → lv_has ls 4 [(3, .int y1), (2, .int y2), (0, .ref (ad 0)), (1, .int x1)] → W p l e R s m args below meth c H locs 0 0 Q (F0 m 4 ls []) := by
    intro n
    induction n with
    | zero =>
      intro y1 y2 H locs ls G b7 m6 hl
      exact absurd m6 (by have := b7.1; have := b7.2; omega)
    | succ n ih4 =>
      intro y1 y2 H locs ls G b7 m6 hl
      refine lv_iload_n E.1 E.2.1 dX10_mostAlike_4 rfl (lv_at hl 0 rfl) ?_
      refine lv_bipush (v := 8) E.1 E.2.1 dX10_mostAlike_5 (by decide) ?_
      refine lv_icmp_ge (tgt := 32) E.1 E.2.1 dX10_mostAlike_7 (by decide) (fun c8 => ?_) (fun c8 => ?_)
      · skip
        have b9 : iv 8 8 y1 := le_r c8 (iv_lit (lo := 8) (hi := 8) 8 (by decide) (by decide)) b7 (by decide)
        refine lv_iload_n E.1 E.2.1 dX10_mostAlike_32 rfl (lv_at hl 1 rfl) ?_
        exact RET G rfl rfl dX10_mostAlike_33
      · skip
        have b10 : iv 0 7 y1 := lt_l (Int32.not_le.mp c8) b7 (iv_lit (lo := 8) (hi := 8) 8 (by decide) (by decide)) (by decide)
        refine lv_iload_n E.1 E.2.1 dX10_mostAlike_10 rfl (lv_at hl 1 rfl) ?_
        refine lv_aload_n E.1 E.2.1 dX10_mostAlike_11 rfl (lv_at hl 2 rfl) ?_
        refine t_get E G 10 13 (rfl : ro 0 = 10) (C := RX10) (T := TX10) (N := 17) rfl (by decide) (by decide) (by decide) mw_fl_10_87 (v := .ref (ad 342)) (fvl_o (n := 342) rfl) dX10_mostAlike_12 ?_
        refine lv_iload_n E.1 E.2.1 dX10_mostAlike_15 rfl (lv_at hl 3 rfl) ?_
        refine lv_bipush (v := 8) E.1 E.2.1 dX10_mostAlike_16 (by decide) ?_
        refine lv_imul E.1 E.2.1 dX10_mostAlike_18 ?_
        refine lv_topi (fun v11 e12 => ?_)
        have b13 : iv 0 32 v11 := by rw [e12]; exact iv_mulc bx1 8 (by decide) (by decide) (by decide) (by decide) (by decide) (by decide)
        refine lv_iload_n E.1 E.2.1 dX10_mostAlike_19 rfl (lv_at hl 0 rfl) ?_
        refine lv_iadd E.1 E.2.1 dX10_mostAlike_20 ?_
        refine lv_topi (fun v14 e15 => ?_)
        have b16 : iv 0 39 v14 := by rw [e15]; exact iv_add b13 b10 (by decide) (by decide) (by decide) (by decide)
        refine t_iald E G 42 (rfl : ro 342 = 42) (by decide) (by decide) rfl (n := 40) rfl (iv_vp b16 (by decide) (by decide)) dX10_mostAlike_21 ?_
        refine lv_topi (fun v17 e18 => ?_)
        refine va_mmax E.1 E.2.1 (E.2.2.1.trans hl.1.symm) E.2.2.2.1 (E.2.2.2.2.1 _ mw_ml_10_336) (E.2.2.2.2.1 _ mw_stat_max) (E.2.2.2.2.1 _ mw_ini_Math) (E.2.2.2.2.1 _ mw_code_max) (Nat.le_trans (by decide) hfr) (Nat.le_trans (Nat.le_of_ble_eq_true rfl) hlo) (Nat.zero_le _) (Nat.zero_le _) dX10_mostAlike_22 ?_
        refine lv_topi (fun v19 e20 => ?_)
        refine lv_istore_n (lv' := [(2, .int v19), (3, .int y1), (0, .ref (ad 0)), (1, .int x1)]) E.1 E.2.1 dX10_mostAlike_25 rfl hl (by decide) rfl (fun ls hl => ?_)
        obtain ⟨v21, e22⟩ : ∃ w : Int32, w = y1 + (1 : Int32) := ⟨_, rfl⟩
        refine lv_iinc (v := v21) (lv' := [(3, .int v21), (2, .int v19), (0, .ref (ad 0)), (1, .int x1)]) E.1 E.2.1 dX10_mostAlike_26 hl (k := 1) rfl (by rw [e22]; rfl) (by decide) rfl (fun ls hl => ?_)
        have b23 : iv 1 8 v21 := by rw [e22]; exact iv_add b10 (iv_lit (lo := 1) (hi := 1) 1 (by decide) (by decide)) (by decide) (by decide) (by decide) (by decide)
        have t24 : v21.toInt = y1.toInt + 1 := by rw [e22]; exact ti_addc 1 (by decide) b10 (by decide) (by decide)
        refine lv_goto (tgt := 4) E.1 E.2.1 dX10_mostAlike_29 (by decide) ?_
        exact ih4 v21 v19 H locs ls G (iv_mono b23 (by decide) (by decide)) (by have := t24; have := m6; omega) (lv_sub hl [0, 1, 2, 3] rfl)
  exact LOOP4 9 0 0 H locs ls G (iv_mono (iv_lit (lo := 0) (hi := 0) 0 (by decide) (by decide)) (by decide) (by decide)) (by have := (iv_lit (lo := 0) (hi := 0) 0 (by decide) (by decide)).1; omega) (lv_sub hl [0, 1, 2, 3] rfl)
set_option maxHeartbeats 4000000 in
set_option maxRecDepth 100000 in
theorem k_isRest (l : Launch) (D : va_G) (K : Nat → ClassId) (ad : Nat → Nat) (z : TS) (o : Ok z) (x1 : Int32) (bx1 : iv 0 7 x1) (x2 : Int32) (bx2 : iv 0 7 x2) : cI l yX10_isRest cX10_isRest 6 .boolean ({ frames := 0, cells := 0, slots := 0, locals := 0 }) D K ad z [.ref (ad 0), .int x1, .int x2] (fun r u => u = z ∧ iv 0 1 r) := by
  refine t_enterI (by decide) (Nat.le_of_ble_eq_true rfl) rfl rfl ?_
  intro p e s m args below meth c A R Q H locs ls E hfr hlo RET G hl
  have E : mE p s m meth c cX10_isRest args 6 RX10 D K A := E
  have hl : lv_has ls 6 [(0, .ref (ad 0)), (1, .int x1), (2, .int x2)] := hl
  refine lv_aload_n E.1 E.2.1 dX10_isRest_0 rfl (lv_at hl 0 rfl) ?_
  refine t_get E G 10 7 (rfl : ro 0 = 10) (C := RX10) (T := TX10) (N := 17) rfl (by decide) (by decide) (by decide) mw_fl_10_55 (v := .ref (ad 56)) (fvl_o (n := 56) rfl) dX10_isRest_1 ?_
  refine t_get E G 2 0 (rfl : ro 56 = 2) (C := RX2) (T := TX2) (N := 5) rfl (by decide) (by decide) (by decide) mw_fl_10_114 (v := .ref (ad 57)) (fvl_o (n := 1) rfl) dX10_isRest_4 ?_
  refine t_get E G 8 0 (rfl : ro 57 = 8) (C := RX8) (T := TX8) (N := 10) rfl (by decide) (by decide) (by decide) mw_fl_10_192 (fvl_i rfl) dX10_isRest_7 ?_
  refine lv_topi (fun v1 e2 => ?_)
  have b3 : iv 0 8 v1 := by rw [e2]; exact o.i 8 0 (rfl : ro 57 = 8)
  refine lv_istore_n (lv' := [(3, .int v1), (0, .ref (ad 0)), (1, .int x1), (2, .int x2)]) E.1 E.2.1 dX10_isRest_10 rfl hl (by decide) rfl (fun ls hl => ?_)
  refine lv_iload_n E.1 E.2.1 dX10_isRest_11 rfl (lv_at hl 2 rfl) ?_
  refine lv_iload_n E.1 E.2.1 dX10_isRest_12 rfl (lv_at hl 0 rfl) ?_
  refine lv_icmp_ge (tgt := 21) E.1 E.2.1 dX10_isRest_13 (by decide) (fun c4 => ?_) (fun c4 => ?_)
  · skip
    have b5 : iv 0 7 v1 := le_l c4 b3 bx1 (by decide)
    refine lv_iconst (v := 0) E.1 E.2.1 dX10_isRest_21 (by decide) ?_
    exact RET G ⟨rfl, (iv_mono (iv_lit (lo := 0) (hi := 0) 0 (by decide) (by decide)) (by decide) (by decide))⟩ (by decide) dX10_isRest_22
  · skip
    have b6 : iv 1 8 v1 := lt_r (Int32.not_le.mp c4) bx1 b3 (by decide)
    refine lv_iload_n E.1 E.2.1 dX10_isRest_16 rfl (lv_at hl 3 rfl) ?_
    refine lv_iload_n E.1 E.2.1 dX10_isRest_17 rfl (lv_at hl 0 rfl) ?_
    refine lv_icmp_lt (tgt := 23) E.1 E.2.1 dX10_isRest_18 (by decide) (fun c7 => ?_) (fun c7 => ?_)
    · skip
      refine lv_iload_n E.1 E.2.1 dX10_isRest_23 rfl (lv_at hl 2 rfl) ?_
      refine lv_bipush (v := 8) E.1 E.2.1 dX10_isRest_24 (by decide) ?_
      refine lv_imul E.1 E.2.1 dX10_isRest_26 ?_
      refine lv_topi (fun v8 e9 => ?_)
      have b10 : iv 0 56 v8 := by rw [e9]; exact iv_mulc bx1 8 (by decide) (by decide) (by decide) (by decide) (by decide) (by decide)
      refine lv_iload_n E.1 E.2.1 dX10_isRest_27 rfl (lv_at hl 3 rfl) ?_
      refine lv_iadd E.1 E.2.1 dX10_isRest_28 ?_
      refine lv_topi (fun v11 e12 => ?_)
      have b13 : iv 0 63 v11 := by rw [e12]; exact iv_add b10 bx2 (by decide) (by decide) (by decide) (by decide)
      refine lv_istore (lv' := [(4, .int v11), (3, .int v1), (0, .ref (ad 0)), (1, .int x1), (2, .int x2)]) E.1 E.2.1 dX10_isRest_29 hl (by decide) rfl (fun ls hl => ?_)
      refine lv_iconst (v := 0) E.1 E.2.1 dX10_isRest_31 (by decide) ?_
      refine lv_istore (lv' := [(5, .int 0), (4, .int v11), (3, .int v1), (0, .ref (ad 0)), (1, .int x1), (2, .int x2)]) E.1 E.2.1 dX10_isRest_32 hl (by decide) rfl (fun ls hl => ?_)
      have LOOP34 : ∀ n : Nat, ∀ (y14 : Int32) (H : Heap) (locs : List Loc) (ls : Array Slot), mG D A s H locs (wd K ad z) → iv 0 8 y14 → 8 < y14.toInt + (n : Int) → lv_has ls 6 [(5, .int y14), (4, .int v11), (3, .int v1), (0, .ref (ad 0)), (1, .int x1), (2, .int x2)] → W p l e R s m args below meth c H locs 0 0 Q (F0 m 34 ls []) := by
        intro n
        induction n with
        | zero =>
          intro y14 H locs ls G b19 m18 hl
          exact absurd m18 (by have := b19.1; have := b19.2; omega)
        | succ n ih34 =>
          intro y14 H locs ls G b19 m18 hl
          refine lv_iload E.1 E.2.1 dX10_isRest_34 (lv_at hl 0 rfl) ?_
          refine lv_iload_n E.1 E.2.1 dX10_isRest_36 rfl (lv_at hl 2 rfl) ?_
          refine lv_icmp_ge (tgt := 92) E.1 E.2.1 dX10_isRest_37 (by decide) (fun c20 => ?_) (fun c20 => ?_)
          · skip
            have b21 : iv 1 8 y14 := le_r c20 b6 b19 (by decide)
            refine lv_iconst (v := 1) E.1 E.2.1 dX10_isRest_92 (by decide) ?_
            exact RET G ⟨rfl, (iv_mono (iv_lit (lo := 1) (hi := 1) 1 (by decide) (by decide)) (by decide) (by decide))⟩ (by decide) dX10_isRest_93
          · skip
            have b22 : iv 0 7 y14 := lt_l (Int32.not_le.mp c20) b19 b6 (by decide)
            refine lv_aload_n E.1 E.2.1 dX10_isRest_40 rfl (lv_at hl 3 rfl) ?_
            refine t_get E G 10 15 (rfl : ro 0 = 10) (C := RX10) (T := TX10) (N := 17) rfl (by decide) (by decide) (by decide) mw_fl_10_94 (v := .ref (ad 344)) (fvl_o (n := 344) rfl) dX10_isRest_41 ?_
            refine lv_iload E.1 E.2.1 dX10_isRest_44 (lv_at hl 0 rfl) ?_
            refine lv_bipush (v := 8) E.1 E.2.1 dX10_isRest_46 (by decide) ?_
            refine lv_imul E.1 E.2.1 dX10_isRest_48 ?_
            refine lv_topi (fun v23 e24 => ?_)
            have b25 : iv 0 56 v23 := by rw [e24]; exact iv_mulc b22 8 (by decide) (by decide) (by decide) (by decide) (by decide) (by decide)
            refine lv_iload_n E.1 E.2.1 dX10_isRest_49 rfl (lv_at hl 5 rfl) ?_
            refine lv_iadd E.1 E.2.1 dX10_isRest_50 ?_
            refine lv_topi (fun v26 e27 => ?_)
            have b28 : iv 0 63 v26 := by rw [e27]; exact iv_add b25 bx2 (by decide) (by decide) (by decide) (by decide)
            refine t_iald E G 44 (rfl : ro 344 = 44) (by decide) (by decide) rfl (n := 64) rfl (iv_vp b28 (by decide) (by decide)) dX10_isRest_51 ?_
            refine lv_topi (fun v29 e30 => ?_)
            refine lv_aload_n E.1 E.2.1 dX10_isRest_52 rfl (lv_at hl 3 rfl) ?_
            refine t_get E G 10 15 (rfl : ro 0 = 10) (C := RX10) (T := TX10) (N := 17) rfl (by decide) (by decide) (by decide) mw_fl_10_94 (v := .ref (ad 344)) (fvl_o (n := 344) rfl) dX10_isRest_53 ?_
            refine lv_iload E.1 E.2.1 dX10_isRest_56 (lv_at hl 1 rfl) ?_
            refine t_iald E G 44 (rfl : ro 344 = 44) (by decide) (by decide) rfl (n := 64) rfl (iv_vp b13 (by decide) (by decide)) dX10_isRest_58 ?_
            refine lv_topi (fun v31 e32 => ?_)
            refine lv_icmp_gt (tgt := 84) E.1 E.2.1 dX10_isRest_59 (by decide) (fun c33 => ?_) (fun c33 => ?_)
            · skip
              have b34 : iv (-2147483648) 2147483646 v31 := lt_l c33 (iv_full v31) (iv_full v29) (by decide)
              have b35 : iv (-2147483647) 2147483647 v29 := lt_r c33 (iv_full v31) (iv_full v29) (by decide)
              refine lv_iconst (v := 0) E.1 E.2.1 dX10_isRest_84 (by decide) ?_
              exact RET G ⟨rfl, (iv_mono (iv_lit (lo := 0) (hi := 0) 0 (by decide) (by decide)) (by decide) (by decide))⟩ (by decide) dX10_isRest_85
            · skip
              refine lv_aload_n E.1 E.2.1 dX10_isRest_62 rfl (lv_at hl 3 rfl) ?_
              refine t_get E G 10 16 (rfl : ro 0 = 10) (C := RX10) (T := TX10) (N := 17) rfl (by decide) (by decide) (by decide) mw_fl_10_97 (v := .ref (ad 345)) (fvl_o (n := 345) rfl) dX10_isRest_63 ?_
              refine lv_iload_n E.1 E.2.1 dX10_isRest_66 rfl (lv_at hl 4 rfl) ?_
              refine lv_bipush (v := 8) E.1 E.2.1 dX10_isRest_67 (by decide) ?_
              refine lv_imul E.1 E.2.1 dX10_isRest_69 ?_
              refine lv_topi (fun v36 e37 => ?_)
              have b38 : iv 0 56 v36 := by rw [e37]; exact iv_mulc bx1 8 (by decide) (by decide) (by decide) (by decide) (by decide) (by decide)
              refine lv_iload E.1 E.2.1 dX10_isRest_70 (lv_at hl 0 rfl) ?_
              refine lv_iadd E.1 E.2.1 dX10_isRest_72 ?_
              refine lv_topi (fun v39 e40 => ?_)
              have b41 : iv 0 63 v39 := by rw [e40]; exact iv_add b38 b22 (by decide) (by decide) (by decide) (by decide)
              refine t_iald E G 44 (rfl : ro 345 = 44) (by decide) (by decide) rfl (n := 64) rfl (iv_vp b41 (by decide) (by decide)) dX10_isRest_73 ?_
              refine lv_topi (fun v42 e43 => ?_)
              refine lv_aload_n E.1 E.2.1 dX10_isRest_74 rfl (lv_at hl 3 rfl) ?_
              refine t_get E G 10 16 (rfl : ro 0 = 10) (C := RX10) (T := TX10) (N := 17) rfl (by decide) (by decide) (by decide) mw_fl_10_97 (v := .ref (ad 345)) (fvl_o (n := 345) rfl) dX10_isRest_75 ?_
              refine lv_iload E.1 E.2.1 dX10_isRest_78 (lv_at hl 1 rfl) ?_
              refine t_iald E G 44 (rfl : ro 345 = 44) (by decide) (by decide) rfl (n := 64) rfl (iv_vp b13 (by decide) (by decide)) dX10_isRest_80 ?_
              refine lv_topi (fun v44 e45 => ?_)
              refine lv_icmp_le (tgt := 86) E.1 E.2.1 dX10_isRest_81 (by decide) (fun c46 => ?_) (fun c46 => ?_)
              · skip
                obtain ⟨v47, e48⟩ : ∃ w : Int32, w = y14 + (1 : Int32) := ⟨_, rfl⟩
                refine lv_iinc (v := v47) (lv' := [(5, .int v47), (4, .int v11), (3, .int v1), (0, .ref (ad 0)), (1, .int x1), (2, .int x2)]) E.1 E.2.1 dX10_isRest_86 hl (k := 0) rfl (by rw [e48]; rfl) (by decide) rfl (fun ls hl => ?_)
                have b49 : iv 1 8 v47 := by rw [e48]; exact iv_add b22 (iv_lit (lo := 1) (hi := 1) 1 (by decide) (by decide)) (by decide) (by decide) (by decide) (by decide)
                have t50 : v47.toInt = y14.toInt + 1 := by rw [e48]; exact ti_addc 1 (by decide) b22 (by decide) (by decide)
                refine lv_goto (tgt := 34) E.1 E.2.1 dX10_isRest_89 (by decide) ?_
                exact ih34 v47 H locs ls G (iv_mono b49 (by decide) (by decide)) (by have := t50; have := m18; omega) (lv_sub hl [0, 1, 2, 3, 4, 5] rfl)
              · skip
                have b51 : iv (-2147483648) 2147483646 v44 := lt_l (Int32.not_le.mp c46) (iv_full v44) (iv_full v42) (by decide)
                have b52 : iv (-2147483647) 2147483647 v42 := lt_r (Int32.not_le.mp c46) (iv_full v44) (iv_full v42) (by decide)
                refine lv_iconst (v := 0) E.1 E.2.1 dX10_isRest_84 (by decide) ?_
                exact RET G ⟨rfl, (iv_mono (iv_lit (lo := 0) (hi := 0) 0 (by decide) (by decide)) (by decide) (by decide))⟩ (by decide) dX10_isRest_85
      exact LOOP34 9 0 H locs ls G (iv_mono (iv_lit (lo := 0) (hi := 0) 0 (by decide) (by decide)) (by decide) (by decide)) (by have := (iv_lit (lo := 0) (hi := 0) 0 (by decide) (by decide)).1; omega) (lv_sub hl [0, 1, 2, 3, 4, 5] rfl)
    · skip
      have b53 : iv 1 7 v1 := le_l (Int32.not_lt.mp c7) b6 bx2 (by decide)
      have b54 : iv 1 7 x2 := le_r (Int32.not_lt.mp c7) b6 bx2 (by decide)
      refine lv_iconst (v := 0) E.1 E.2.1 dX10_isRest_21 (by decide) ?_
      exact RET G ⟨rfl, (iv_mono (iv_lit (lo := 0) (hi := 0) 0 (by decide) (by decide)) (by decide) (by decide))⟩ (by decide) dX10_isRest_22
