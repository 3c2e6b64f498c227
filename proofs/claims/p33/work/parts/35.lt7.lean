theorem mw_code_X10_bestOf : (Cond.code yX10_bestOf cX10_bestOf 10 (some .int) : Cond) ∈ cw := cw_of (List.mem_append_right _ (List.mem_append_right _ (List.mem_append_right _ (List.mem_append_right _ (List.mem_append_right _ (List.mem_append_left _ (List.mem_of_getElem? (i := 7) rfl))))))) (by decide +kernel)
theorem mw_code_X10_choicesThatAreSo : (Cond.code yX10_choicesThatAreSo cX10_choicesThatAreSo 6 (some .int) : Cond) ∈ cw := cw_of (List.mem_append_right _ (List.mem_append_right _ (List.mem_append_right _ (List.mem_append_right _ (List.mem_append_right _ (List.mem_append_left _ (List.mem_of_getElem? (i := 47) rfl))))))) (by decide +kernel)
theorem mw_code_X10_isRest : (Cond.code yX10_isRest cX10_isRest 6 (some .boolean) : Cond) ∈ cw := cw_of (List.mem_append_right _ (List.mem_append_right _ (List.mem_append_right _ (List.mem_append_right _ (List.mem_append_right _ (List.mem_append_left _ (List.mem_of_getElem? (i := 27) rfl))))))) (by decide +kernel)
theorem mw_code_X10_mostAlike : (Cond.code yX10_mostAlike cX10_mostAlike 4 (some .int) : Cond) ∈ cw := cw_of (List.mem_append_right _ (List.mem_append_right _ (List.mem_append_right _ (List.mem_append_right _ (List.mem_append_right _ (List.mem_append_left _ (List.mem_of_getElem? (i := 80) rfl))))))) (by decide +kernel)
theorem mw_code_X10_tallyRules : (Cond.code yX10_tallyRules cX10_tallyRules 5 (some .int) : Cond) ∈ cw := cw_of (List.mem_append_right _ (List.mem_append_right _ (List.mem_append_right _ (List.mem_append_right _ (List.mem_append_right _ (List.mem_append_left _ (List.mem_of_getElem? (i := 76) rfl))))))) (by decide +kernel)
theorem mw_code_X10_weighTwos : (Cond.code yX10_weighTwos cX10_weighTwos 6 none : Cond) ∈ cw := cw_of (List.mem_append_right _ (List.mem_append_right _ (List.mem_append_right _ (List.mem_append_right _ (List.mem_append_right _ (List.mem_append_left _ (List.mem_of_getElem? (i := 19) rfl))))))) (by decide +kernel)
theorem mw_inst_X10_bestOf : (Cond.instanceMethod yX10_bestOf : Cond) ∈ cw := cw_of (List.mem_append_right _ (List.mem_append_right _ (List.mem_append_right _ (List.mem_append_right _ (List.mem_append_right _ (List.mem_append_left _ (List.mem_of_getElem? (i := 6) (by decide +kernel)))))))) (by decide +kernel)
theorem mw_inst_X10_choicesThatAreSo : (Cond.instanceMethod yX10_choicesThatAreSo : Cond) ∈ cw := cw_of (List.mem_append_right _ (List.mem_append_right _ (List.mem_append_right _ (List.mem_append_right _ (List.mem_append_right _ (List.mem_append_left _ (List.mem_of_getElem? (i := 46) (by decide +kernel)))))))) (by decide +kernel)
theorem mw_inst_X10_isRest : (Cond.instanceMethod yX10_isRest : Cond) ∈ cw := cw_of (List.mem_append_right _ (List.mem_append_right _ (List.mem_append_right _ (List.mem_append_right _ (List.mem_append_right _ (List.mem_append_left _ (List.mem_of_getElem? (i := 26) (by decide +kernel)))))))) (by decide +kernel)
theorem mw_inst_X10_mostAlike : (Cond.instanceMethod yX10_mostAlike : Cond) ∈ cw := cw_of (List.mem_append_right _ (List.mem_append_right _ (List.mem_append_right _ (List.mem_append_right _ (List.mem_append_right _ (List.mem_append_left _ (List.mem_of_getElem? (i := 79) (by decide +kernel)))))))) (by decide +kernel)
theorem mw_inst_X10_tallyRules : (Cond.instanceMethod yX10_tallyRules : Cond) ∈ cw := cw_of (List.mem_append_right _ (List.mem_append_right _ (List.mem_append_right _ (List.mem_append_right _ (List.mem_append_right _ (List.mem_append_left _ (List.mem_of_getElem? (i := 75) (by decide +kernel)))))))) (by decide +kernel)
theorem mw_inst_X10_weighTwos : (Cond.instanceMethod yX10_weighTwos : Cond) ∈ cw := cw_of (List.mem_append_right _ (List.mem_append_right _ (List.mem_append_right _ (List.mem_append_right _ (List.mem_append_right _ (List.mem_append_left _ (List.mem_of_getElem? (i := 18) (by decide +kernel)))))))) (by decide +kernel)
theorem mw_ml_10_292 : (Cond.methodLink RX10 292 yX10_bestOf : Cond) ∈ cw := cw_of (List.mem_append_right _ (List.mem_append_right _ (List.mem_append_right _ (List.mem_append_right _ (List.mem_append_right _ (List.mem_append_left _ (List.mem_of_getElem? (i := 4) (by decide +kernel)))))))) (by decide +kernel)
theorem mw_ml_10_303 : (Cond.methodLink RX10 303 yX10_weighTwos : Cond) ∈ cw := cw_of (List.mem_append_right _ (List.mem_append_right _ (List.mem_append_right _ (List.mem_append_right _ (List.mem_append_right _ (List.mem_append_left _ (List.mem_of_getElem? (i := 16) (by decide +kernel)))))))) (by decide +kernel)
theorem mw_ml_10_307 : (Cond.methodLink RX10 307 yX10_isRest : Cond) ∈ cw := cw_of (List.mem_append_right _ (List.mem_append_right _ (List.mem_append_right _ (List.mem_append_right _ (List.mem_append_right _ (List.mem_append_left _ (List.mem_of_getElem? (i := 24) (by decide +kernel)))))))) (by decide +kernel)
theorem mw_ml_10_318 : (Cond.methodLink RX10 318 yX10_choicesThatAreSo : Cond) ∈ cw := cw_of (List.mem_append_right _ (List.mem_append_right _ (List.mem_append_right _ (List.mem_append_right _ (List.mem_append_right _ (List.mem_append_left _ (List.mem_of_getElem? (i := 44) (by decide +kernel)))))))) (by decide +kernel)
theorem mw_ml_10_330 : (Cond.methodLink RX10 330 yX10_tallyRules : Cond) ∈ cw := cw_of (List.mem_append_right _ (List.mem_append_right _ (List.mem_append_right _ (List.mem_append_right _ (List.mem_append_right _ (List.mem_append_left _ (List.mem_of_getElem? (i := 73) (by decide +kernel)))))))) (by decide +kernel)
theorem mw_ml_10_333 : (Cond.methodLink RX10 333 yX10_mostAlike : Cond) ∈ cw := cw_of (List.mem_append_right _ (List.mem_append_right _ (List.mem_append_right _ (List.mem_append_right _ (List.mem_append_right _ (List.mem_append_left _ (List.mem_of_getElem? (i := 77) (by decide +kernel)))))))) (by decide +kernel)
theorem mw_sel_X10_bestOf : (Cond.selects RX10 yX10_bestOf yX10_bestOf : Cond) ∈ cw := cw_of (List.mem_append_left _ (List.mem_of_getElem? (i := 40) (by decide +kernel))) (by decide +kernel)
theorem mw_sel_X10_choicesThatAreSo : (Cond.selects RX10 yX10_choicesThatAreSo yX10_choicesThatAreSo : Cond) ∈ cw := cw_of (List.mem_append_left _ (List.mem_of_getElem? (i := 43) (by decide +kernel))) (by decide +kernel)
theorem mw_sel_X10_isRest : (Cond.selects RX10 yX10_isRest yX10_isRest : Cond) ∈ cw := cw_of (List.mem_append_left _ (List.mem_of_getElem? (i := 42) (by decide +kernel))) (by decide +kernel)
theorem mw_sel_X10_mostAlike : (Cond.selects RX10 yX10_mostAlike yX10_mostAlike : Cond) ∈ cw := cw_of (List.mem_append_left _ (List.mem_of_getElem? (i := 46) (by decide +kernel))) (by decide +kernel)
theorem mw_sel_X10_tallyRules : (Cond.selects RX10 yX10_tallyRules yX10_tallyRules : Cond) ∈ cw := cw_of (List.mem_append_left _ (List.mem_of_getElem? (i := 45) (by decide +kernel))) (by decide +kernel)
theorem mw_sel_X10_weighTwos : (Cond.selects RX10 yX10_weighTwos yX10_weighTwos : Cond) ∈ cw := cw_of (List.mem_append_left _ (List.mem_of_getElem? (i := 41) (by decide +kernel))) (by decide +kernel)
theorem dX10_best_0 : decode cX10_best 0 = .ok (.aload_n 0, 1) := by decide +kernel
theorem dX10_best_1 : decode cX10_best 1 = .ok (.iload_n 1, 1) := by decide +kernel
theorem dX10_best_2 : decode cX10_best 2 = .ok (.invokevirtual 236, 3) := by decide +kernel
theorem dX10_best_5 : decode cX10_best 5 = .ok (.ifCond .eq 23, 3) := by decide +kernel
theorem dX10_best_8 : decode cX10_best 8 = .ok (.iload_n 2, 1) := by decide +kernel
theorem dX10_best_9 : decode cX10_best 9 = .ok (.iconst 1, 1) := by decide +kernel
theorem dX10_best_10 : decode cX10_best 10 = .ok (.if_icmp .lt 18, 3) := by decide +kernel
theorem dX10_best_13 : decode cX10_best 13 = .ok (.iload_n 2, 1) := by decide +kernel
theorem dX10_best_14 : decode cX10_best 14 = .ok (.bipush 40, 2) := by decide +kernel
theorem dX10_best_16 : decode cX10_best 16 = .ok (.if_icmp .gt 12, 3) := by decide +kernel
theorem dX10_best_19 : decode cX10_best 19 = .ok (.iload_n 3, 1) := by decide +kernel
theorem dX10_best_20 : decode cX10_best 20 = .ok (.ifCond .lt 8, 3) := by decide +kernel
theorem dX10_best_23 : decode cX10_best 23 = .ok (.iload_n 3, 1) := by decide +kernel
theorem dX10_best_24 : decode cX10_best 24 = .ok (.iconst 1, 1) := by decide +kernel
theorem dX10_best_25 : decode cX10_best 25 = .ok (.if_icmp .le 5, 3) := by decide +kernel
theorem dX10_best_28 : decode cX10_best 28 = .ok (.iconst (-1), 1) := by decide +kernel
theorem dX10_best_29 : decode cX10_best 29 = .ok (.ireturn, 1) := by decide +kernel
theorem dX10_best_30 : decode cX10_best 30 = .ok (.aload_n 0, 1) := by decide +kernel
theorem dX10_best_31 : decode cX10_best 31 = .ok (.aload_n 0, 1) := by decide +kernel
theorem dX10_best_32 : decode cX10_best 32 = .ok (.getfield 83, 3) := by decide +kernel
theorem dX10_best_35 : decode cX10_best 35 = .ok (.getfield 153, 3) := by decide +kernel
theorem dX10_best_38 : decode cX10_best 38 = .ok (.aload_n 0, 1) := by decide +kernel
theorem dX10_best_39 : decode cX10_best 39 = .ok (.getfield 55, 3) := by decide +kernel
theorem dX10_best_42 : decode cX10_best 42 = .ok (.getfield 114, 3) := by decide +kernel
theorem dX10_best_45 : decode cX10_best 45 = .ok (.getfield 192, 3) := by decide +kernel
theorem dX10_best_48 : decode cX10_best 48 = .ok (.iload_n 1, 1) := by decide +kernel
theorem dX10_best_49 : decode cX10_best 49 = .ok (.iload_n 2, 1) := by decide +kernel
theorem dX10_best_50 : decode cX10_best 50 = .ok (.iload_n 3, 1) := by decide +kernel
theorem dX10_best_51 : decode cX10_best 51 = .ok (.invokevirtual 292, 3) := by decide +kernel
theorem dX10_best_54 : decode cX10_best 54 = .ok (.ireturn, 1) := by decide +kernel
theorem dX10_hearts_0 : decode cX10_hearts 0 = .ok (.aload_n 0, 1) := by decide +kernel
theorem dX10_hearts_1 : decode cX10_hearts 1 = .ok (.iload_n 1, 1) := by decide +kernel
theorem dX10_hearts_2 : decode cX10_hearts 2 = .ok (.invokevirtual 168, 3) := by decide +kernel
theorem dX10_hearts_5 : decode cX10_hearts 5 = .ok (.ifCond .eq 20, 3) := by decide +kernel
theorem dX10_hearts_8 : decode cX10_hearts 8 = .ok (.aload_n 0, 1) := by decide +kernel
theorem dX10_hearts_9 : decode cX10_hearts 9 = .ok (.aload_n 0, 1) := by decide +kernel
theorem dX10_hearts_10 : decode cX10_hearts 10 = .ok (.getfield 83, 3) := by decide +kernel
theorem dX10_hearts_13 : decode cX10_hearts 13 = .ok (.getfield 177, 3) := by decide +kernel
theorem dX10_hearts_16 : decode cX10_hearts 16 = .ok (.bipush 8, 2) := by decide +kernel
theorem dX10_hearts_18 : decode cX10_hearts 18 = .ok (.iload_n 1, 1) := by decide +kernel
theorem dX10_hearts_19 : decode cX10_hearts 19 = .ok (.invokevirtual 318, 3) := by decide +kernel
theorem dX10_hearts_22 : decode cX10_hearts 22 = .ok (.goto 4, 3) := by decide +kernel
theorem dX10_hearts_25 : decode cX10_hearts 25 = .ok (.iconst (-1), 1) := by decide +kernel
theorem dX10_hearts_26 : decode cX10_hearts 26 = .ok (.ireturn, 1) := by decide +kernel
theorem dX10_kind_0 : decode cX10_kind 0 = .ok (.aload_n 0, 1) := by decide +kernel
theorem dX10_kind_1 : decode cX10_kind 1 = .ok (.iload_n 1, 1) := by decide +kernel
theorem dX10_kind_2 : decode cX10_kind 2 = .ok (.invokevirtual 236, 3) := by decide +kernel
theorem dX10_kind_5 : decode cX10_kind 5 = .ok (.ifCond .eq 23, 3) := by decide +kernel
theorem dX10_kind_8 : decode cX10_kind 8 = .ok (.iload_n 2, 1) := by decide +kernel
theorem dX10_kind_9 : decode cX10_kind 9 = .ok (.iconst 1, 1) := by decide +kernel
theorem dX10_kind_10 : decode cX10_kind 10 = .ok (.if_icmp .lt 18, 3) := by decide +kernel
theorem dX10_kind_13 : decode cX10_kind 13 = .ok (.iload_n 2, 1) := by decide +kernel
theorem dX10_kind_14 : decode cX10_kind 14 = .ok (.bipush 40, 2) := by decide +kernel
theorem dX10_kind_16 : decode cX10_kind 16 = .ok (.if_icmp .gt 12, 3) := by decide +kernel
theorem dX10_kind_19 : decode cX10_kind 19 = .ok (.iload_n 3, 1) := by decide +kernel
theorem dX10_kind_20 : decode cX10_kind 20 = .ok (.ifCond .lt 8, 3) := by decide +kernel
theorem dX10_kind_23 : decode cX10_kind 23 = .ok (.iload_n 3, 1) := by decide +kernel
theorem dX10_kind_24 : decode cX10_kind 24 = .ok (.iconst 1, 1) := by decide +kernel
theorem dX10_kind_25 : decode cX10_kind 25 = .ok (.if_icmp .le 5, 3) := by decide +kernel
theorem dX10_kind_28 : decode cX10_kind 28 = .ok (.iconst (-1), 1) := by decide +kernel
theorem dX10_kind_29 : decode cX10_kind 29 = .ok (.ireturn, 1) := by decide +kernel
theorem dX10_kind_30 : decode cX10_kind 30 = .ok (.aload_n 0, 1) := by decide +kernel
theorem dX10_kind_31 : decode cX10_kind 31 = .ok (.aload_n 0, 1) := by decide +kernel
theorem dX10_kind_32 : decode cX10_kind 32 = .ok (.getfield 83, 3) := by decide +kernel
theorem dX10_kind_35 : decode cX10_kind 35 = .ok (.getfield 156, 3) := by decide +kernel
theorem dX10_kind_38 : decode cX10_kind 38 = .ok (.bipush 8, 2) := by decide +kernel
theorem dX10_kind_40 : decode cX10_kind 40 = .ok (.iload_n 1, 1) := by decide +kernel
theorem dX10_kind_41 : decode cX10_kind 41 = .ok (.iload_n 2, 1) := by decide +kernel
theorem dX10_kind_42 : decode cX10_kind 42 = .ok (.iload_n 3, 1) := by decide +kernel
theorem dX10_kind_43 : decode cX10_kind 43 = .ok (.invokevirtual 292, 3) := by decide +kernel
theorem dX10_kind_46 : decode cX10_kind 46 = .ok (.ireturn, 1) := by decide +kernel
theorem dX10_look_0 : decode cX10_look 0 = .ok (.aload_n 0, 1) := by decide +kernel
theorem dX10_look_1 : decode cX10_look 1 = .ok (.invokevirtual 219, 3) := by decide +kernel
theorem dX10_look_4 : decode cX10_look 4 = .ok (.ifCond .eq 22, 3) := by decide +kernel
theorem dX10_look_7 : decode cX10_look 7 = .ok (.iload_n 1, 1) := by decide +kernel
theorem dX10_look_8 : decode cX10_look 8 = .ok (.ifCond .lt 18, 3) := by decide +kernel
theorem dX10_look_11 : decode cX10_look 11 = .ok (.iload_n 1, 1) := by decide +kernel
theorem dX10_look_12 : decode cX10_look 12 = .ok (.bipush 60, 2) := by decide +kernel
theorem dX10_look_14 : decode cX10_look 14 = .ok (.if_icmp .gt 12, 3) := by decide +kernel
theorem dX10_look_17 : decode cX10_look 17 = .ok (.iload_n 2, 1) := by decide +kernel
theorem dX10_look_18 : decode cX10_look 18 = .ok (.ifCond .lt 8, 3) := by decide +kernel
theorem dX10_look_21 : decode cX10_look 21 = .ok (.iload_n 2, 1) := by decide +kernel
theorem dX10_look_22 : decode cX10_look 22 = .ok (.iconst 1, 1) := by decide +kernel
theorem dX10_look_23 : decode cX10_look 23 = .ok (.if_icmp .le 5, 3) := by decide +kernel
theorem dX10_look_26 : decode cX10_look 26 = .ok (.iconst (-1), 1) := by decide +kernel
theorem dX10_look_27 : decode cX10_look 27 = .ok (.ireturn, 1) := by decide +kernel
theorem dX10_look_28 : decode cX10_look 28 = .ok (.aload_n 0, 1) := by decide +kernel
theorem dX10_look_29 : decode cX10_look 29 = .ok (.iload_n 1, 1) := by decide +kernel
theorem dX10_look_30 : decode cX10_look 30 = .ok (.invokevirtual 330, 3) := by decide +kernel
theorem dX10_look_33 : decode cX10_look 33 = .ok (.ifCond .ne 6, 3) := by decide +kernel
theorem dX10_look_36 : decode cX10_look 36 = .ok (.bipush (-2), 2) := by decide +kernel
theorem dX10_look_38 : decode cX10_look 38 = .ok (.ireturn, 1) := by decide +kernel
theorem dX10_look_39 : decode cX10_look 39 = .ok (.bipush (-2), 2) := by decide +kernel
theorem dX10_look_41 : decode cX10_look 41 = .ok (.istore_n 3, 1) := by decide +kernel
theorem dX10_look_42 : decode cX10_look 42 = .ok (.bipush (-2), 2) := by decide +kernel
theorem dX10_look_44 : decode cX10_look 44 = .ok (.istore 4, 2) := by decide +kernel
theorem dX10_look_46 : decode cX10_look 46 = .ok (.iconst 0, 1) := by decide +kernel
theorem dX10_look_47 : decode cX10_look 47 = .ok (.istore 5, 2) := by decide +kernel
theorem dX10_look_49 : decode cX10_look 49 = .ok (.iload 5, 2) := by decide +kernel
theorem dX10_look_51 : decode cX10_look 51 = .ok (.aload_n 0, 1) := by decide +kernel
theorem dX10_look_52 : decode cX10_look 52 = .ok (.getfield 55, 3) := by decide +kernel
theorem dX10_look_55 : decode cX10_look 55 = .ok (.getfield 114, 3) := by decide +kernel
theorem dX10_look_58 : decode cX10_look 58 = .ok (.getfield 140, 3) := by decide +kernel
theorem dX10_look_61 : decode cX10_look 61 = .ok (.if_icmp .ge 35, 3) := by decide +kernel
theorem dX10_look_64 : decode cX10_look 64 = .ok (.aload_n 0, 1) := by decide +kernel
theorem dX10_look_65 : decode cX10_look 65 = .ok (.iload 5, 2) := by decide +kernel
theorem dX10_look_67 : decode cX10_look 67 = .ok (.invokevirtual 333, 3) := by decide +kernel
theorem dX10_look_70 : decode cX10_look 70 = .ok (.istore 6, 2) := by decide +kernel
theorem dX10_look_72 : decode cX10_look 72 = .ok (.iload_n 3, 1) := by decide +kernel
theorem dX10_look_73 : decode cX10_look 73 = .ok (.ifCond .lt 10, 3) := by decide +kernel
theorem dX10_look_76 : decode cX10_look 76 = .ok (.iload 6, 2) := by decide +kernel
theorem dX10_look_78 : decode cX10_look 78 = .ok (.iload 4, 2) := by decide +kernel
theorem dX10_look_80 : decode cX10_look 80 = .ok (.if_icmp .ge 10, 3) := by decide +kernel
theorem dX10_look_83 : decode cX10_look 83 = .ok (.iload 5, 2) := by decide +kernel
theorem dX10_look_85 : decode cX10_look 85 = .ok (.istore_n 3, 1) := by decide +kernel
theorem dX10_look_86 : decode cX10_look 86 = .ok (.iload 6, 2) := by decide +kernel
theorem dX10_look_88 : decode cX10_look 88 = .ok (.istore 4, 2) := by decide +kernel
theorem dX10_look_90 : decode cX10_look 90 = .ok (.iinc 5 1, 3) := by decide +kernel
theorem dX10_look_93 : decode cX10_look 93 = .ok (.goto (-44), 3) := by decide +kernel
theorem dX10_look_96 : decode cX10_look 96 = .ok (.iload_n 2, 1) := by decide +kernel
theorem dX10_look_97 : decode cX10_look 97 = .ok (.ifCond .ne 7, 3) := by decide +kernel
theorem dX10_look_100 : decode cX10_look 100 = .ok (.iload_n 3, 1) := by decide +kernel
theorem dX10_look_101 : decode cX10_look 101 = .ok (.goto 5, 3) := by decide +kernel
theorem dX10_look_104 : decode cX10_look 104 = .ok (.iload 4, 2) := by decide +kernel
theorem dX10_look_106 : decode cX10_look 106 = .ok (.ireturn, 1) := by decide +kernel
theorem dX10_rests_0 : decode cX10_rests 0 = .ok (.aload_n 0, 1) := by decide +kernel
theorem dX10_rests_1 : decode cX10_rests 1 = .ok (.iload_n 1, 1) := by decide +kernel
theorem dX10_rests_2 : decode cX10_rests 2 = .ok (.invokevirtual 236, 3) := by decide +kernel
theorem dX10_rests_5 : decode cX10_rests 5 = .ok (.ifCond .eq 16, 3) := by decide +kernel
theorem dX10_rests_8 : decode cX10_rests 8 = .ok (.aload_n 0, 1) := by decide +kernel
theorem dX10_rests_9 : decode cX10_rests 9 = .ok (.iload_n 2, 1) := by decide +kernel
theorem dX10_rests_10 : decode cX10_rests 10 = .ok (.invokevirtual 236, 3) := by decide +kernel
theorem dX10_rests_13 : decode cX10_rests 13 = .ok (.ifCond .eq 8, 3) := by decide +kernel
theorem dX10_rests_16 : decode cX10_rests 16 = .ok (.iload_n 1, 1) := by decide +kernel
theorem dX10_rests_17 : decode cX10_rests 17 = .ok (.iload_n 2, 1) := by decide +kernel
theorem dX10_rests_18 : decode cX10_rests 18 = .ok (.if_icmp .ne 5, 3) := by decide +kernel
theorem dX10_rests_21 : decode cX10_rests 21 = .ok (.iconst (-1), 1) := by decide +kernel
theorem dX10_rests_22 : decode cX10_rests 22 = .ok (.ireturn, 1) := by decide +kernel
theorem dX10_rests_23 : decode cX10_rests 23 = .ok (.iload_n 3, 1) := by decide +kernel
theorem dX10_rests_24 : decode cX10_rests 24 = .ok (.iconst 1, 1) := by decide +kernel
theorem dX10_rests_25 : decode cX10_rests 25 = .ok (.if_icmp .lt 20, 3) := by decide +kernel
theorem dX10_rests_28 : decode cX10_rests 28 = .ok (.iload_n 3, 1) := by decide +kernel
theorem dX10_rests_29 : decode cX10_rests 29 = .ok (.bipush 20, 2) := by decide +kernel
theorem dX10_rests_31 : decode cX10_rests 31 = .ok (.if_icmp .gt 14, 3) := by decide +kernel
theorem dX10_rests_34 : decode cX10_rests 34 = .ok (.iload 4, 2) := by decide +kernel
theorem dX10_rests_36 : decode cX10_rests 36 = .ok (.ifCond .lt 9, 3) := by decide +kernel
theorem dX10_rests_39 : decode cX10_rests 39 = .ok (.iload 4, 2) := by decide +kernel
theorem dX10_rests_41 : decode cX10_rests 41 = .ok (.iconst 2, 1) := by decide +kernel
theorem dX10_rests_42 : decode cX10_rests 42 = .ok (.if_icmp .le 5, 3) := by decide +kernel
theorem dX10_rests_45 : decode cX10_rests 45 = .ok (.iconst (-1), 1) := by decide +kernel
theorem dX10_rests_46 : decode cX10_rests 46 = .ok (.ireturn, 1) := by decide +kernel
theorem dX10_rests_47 : decode cX10_rests 47 = .ok (.aload_n 0, 1) := by decide +kernel
theorem dX10_rests_48 : decode cX10_rests 48 = .ok (.iload_n 1, 1) := by decide +kernel
theorem dX10_rests_49 : decode cX10_rests 49 = .ok (.iload_n 2, 1) := by decide +kernel
theorem dX10_rests_50 : decode cX10_rests 50 = .ok (.iload_n 3, 1) := by decide +kernel
theorem dX10_rests_51 : decode cX10_rests 51 = .ok (.invokevirtual 303, 3) := by decide +kernel
theorem dX10_rests_54 : decode cX10_rests 54 = .ok (.iconst 0, 1) := by decide +kernel
theorem dX10_rests_55 : decode cX10_rests 55 = .ok (.istore 5, 2) := by decide +kernel
theorem dX10_rests_57 : decode cX10_rests 57 = .ok (.iconst (-1), 1) := by decide +kernel
theorem dX10_rests_58 : decode cX10_rests 58 = .ok (.istore 6, 2) := by decide +kernel
theorem dX10_rests_60 : decode cX10_rests 60 = .ok (.iconst 0, 1) := by decide +kernel
theorem dX10_rests_61 : decode cX10_rests 61 = .ok (.istore 7, 2) := by decide +kernel
theorem dX10_rests_63 : decode cX10_rests 63 = .ok (.iload 7, 2) := by decide +kernel
theorem dX10_rests_65 : decode cX10_rests 65 = .ok (.bipush 64, 2) := by decide +kernel
theorem dX10_rests_67 : decode cX10_rests 67 = .ok (.if_icmp .ge 44, 3) := by decide +kernel
theorem dX10_rests_70 : decode cX10_rests 70 = .ok (.aload_n 0, 1) := by decide +kernel
theorem dX10_rests_71 : decode cX10_rests 71 = .ok (.iload 7, 2) := by decide +kernel
theorem dX10_rests_73 : decode cX10_rests 73 = .ok (.bipush 8, 2) := by decide +kernel
theorem dX10_rests_75 : decode cX10_rests 75 = .ok (.idiv, 1) := by decide +kernel
theorem dX10_rests_76 : decode cX10_rests 76 = .ok (.iload 7, 2) := by decide +kernel
theorem dX10_rests_78 : decode cX10_rests 78 = .ok (.bipush 8, 2) := by decide +kernel
theorem dX10_rests_80 : decode cX10_rests 80 = .ok (.irem, 1) := by decide +kernel
theorem dX10_rests_81 : decode cX10_rests 81 = .ok (.invokevirtual 307, 3) := by decide +kernel
theorem dX10_rests_84 : decode cX10_rests 84 = .ok (.ifCond .eq 21, 3) := by decide +kernel
theorem dX10_rests_87 : decode cX10_rests 87 = .ok (.iinc 5 1, 3) := by decide +kernel
theorem dX10_rests_90 : decode cX10_rests 90 = .ok (.iload 6, 2) := by decide +kernel
theorem dX10_rests_92 : decode cX10_rests 92 = .ok (.iconst (-1), 1) := by decide +kernel
theorem dX10_rests_93 : decode cX10_rests 93 = .ok (.if_icmp .ne 8, 3) := by decide +kernel
theorem dX10_rests_96 : decode cX10_rests 96 = .ok (.iload 7, 2) := by decide +kernel
theorem dX10_rests_98 : decode cX10_rests 98 = .ok (.goto 5, 3) := by decide +kernel
theorem dX10_rests_101 : decode cX10_rests 101 = .ok (.iload 6, 2) := by decide +kernel
theorem dX10_rests_103 : decode cX10_rests 103 = .ok (.istore 6, 2) := by decide +kernel
theorem dX10_rests_105 : decode cX10_rests 105 = .ok (.iinc 7 1, 3) := by decide +kernel
theorem dX10_rests_108 : decode cX10_rests 108 = .ok (.goto (-45), 3) := by decide +kernel
theorem dX10_rests_111 : decode cX10_rests 111 = .ok (.iload 4, 2) := by decide +kernel
theorem dX10_rests_113 : decode cX10_rests 113 = .ok (.ifCond .ne 6, 3) := by decide +kernel
theorem dX10_rests_116 : decode cX10_rests 116 = .ok (.iload 5, 2) := by decide +kernel
theorem dX10_rests_118 : decode cX10_rests 118 = .ok (.ireturn, 1) := by decide +kernel
theorem dX10_rests_119 : decode cX10_rests 119 = .ok (.iload 6, 2) := by decide +kernel
theorem dX10_rests_121 : decode cX10_rests 121 = .ok (.iconst (-1), 1) := by decide +kernel
theorem dX10_rests_122 : decode cX10_rests 122 = .ok (.if_icmp .ne 6, 3) := by decide +kernel
theorem dX10_rests_125 : decode cX10_rests 125 = .ok (.bipush (-2), 2) := by decide +kernel
theorem dX10_rests_127 : decode cX10_rests 127 = .ok (.ireturn, 1) := by decide +kernel
theorem dX10_rests_128 : decode cX10_rests 128 = .ok (.iload 4, 2) := by decide +kernel
theorem dX10_rests_130 : decode cX10_rests 130 = .ok (.iconst 1, 1) := by decide +kernel
theorem dX10_rests_131 : decode cX10_rests 131 = .ok (.if_icmp .ne 11, 3) := by decide +kernel
theorem dX10_rests_134 : decode cX10_rests 134 = .ok (.iload 6, 2) := by decide +kernel
theorem dX10_rests_136 : decode cX10_rests 136 = .ok (.bipush 8, 2) := by decide +kernel
theorem dX10_rests_138 : decode cX10_rests 138 = .ok (.idiv, 1) := by decide +kernel
theorem dX10_rests_139 : decode cX10_rests 139 = .ok (.goto 8, 3) := by decide +kernel
theorem dX10_rests_142 : decode cX10_rests 142 = .ok (.iload 6, 2) := by decide +kernel
theorem dX10_rests_144 : decode cX10_rests 144 = .ok (.bipush 8, 2) := by decide +kernel
theorem dX10_rests_146 : decode cX10_rests 146 = .ok (.irem, 1) := by decide +kernel
theorem dX10_rests_147 : decode cX10_rests 147 = .ok (.ireturn, 1) := by decide +kernel
theorem dX10_ruled_0 : decode cX10_ruled 0 = .ok (.aload_n 0, 1) := by decide +kernel
theorem dX10_ruled_1 : decode cX10_ruled 1 = .ok (.invokevirtual 219, 3) := by decide +kernel
theorem dX10_ruled_4 : decode cX10_ruled 4 = .ok (.ifCond .eq 12, 3) := by decide +kernel
theorem dX10_ruled_7 : decode cX10_ruled 7 = .ok (.iload_n 1, 1) := by decide +kernel
theorem dX10_ruled_8 : decode cX10_ruled 8 = .ok (.ifCond .lt 8, 3) := by decide +kernel
theorem dX10_ruled_11 : decode cX10_ruled 11 = .ok (.iload_n 1, 1) := by decide +kernel
theorem dX10_ruled_12 : decode cX10_ruled 12 = .ok (.iconst 1, 1) := by decide +kernel
theorem dX10_ruled_13 : decode cX10_ruled 13 = .ok (.if_icmp .le 6, 3) := by decide +kernel
theorem dX10_ruled_16 : decode cX10_ruled 16 = .ok (.bipush (-3), 2) := by decide +kernel
theorem dX10_ruled_18 : decode cX10_ruled 18 = .ok (.ireturn, 1) := by decide +kernel
theorem dX10_ruled_19 : decode cX10_ruled 19 = .ok (.iconst 0, 1) := by decide +kernel
theorem dX10_ruled_20 : decode cX10_ruled 20 = .ok (.istore_n 2, 1) := by decide +kernel
theorem dX10_ruled_21 : decode cX10_ruled 21 = .ok (.bipush (-2), 2) := by decide +kernel
theorem dX10_ruled_23 : decode cX10_ruled 23 = .ok (.istore_n 3, 1) := by decide +kernel
theorem dX10_ruled_24 : decode cX10_ruled 24 = .ok (.aload_n 0, 1) := by decide +kernel
theorem dX10_ruled_25 : decode cX10_ruled 25 = .ok (.getfield 43, 3) := by decide +kernel
theorem dX10_ruled_28 : decode cX10_ruled 28 = .ok (.iconst 1, 1) := by decide +kernel
theorem dX10_ruled_29 : decode cX10_ruled 29 = .ok (.isub, 1) := by decide +kernel
theorem dX10_ruled_30 : decode cX10_ruled 30 = .ok (.istore 4, 2) := by decide +kernel
theorem dX10_ruled_32 : decode cX10_ruled 32 = .ok (.iload 4, 2) := by decide +kernel
theorem dX10_ruled_34 : decode cX10_ruled 34 = .ok (.iconst (-1), 1) := by decide +kernel
theorem dX10_ruled_35 : decode cX10_ruled 35 = .ok (.if_icmp .lt 38, 3) := by decide +kernel
theorem dX10_ruled_38 : decode cX10_ruled 38 = .ok (.aload_n 0, 1) := by decide +kernel
theorem dX10_ruled_39 : decode cX10_ruled 39 = .ok (.aload_n 0, 1) := by decide +kernel
theorem dX10_ruled_40 : decode cX10_ruled 40 = .ok (.iload 4, 2) := by decide +kernel
theorem dX10_ruled_42 : decode cX10_ruled 42 = .ok (.invokevirtual 326, 3) := by decide +kernel
theorem dX10_ruled_45 : decode cX10_ruled 45 = .ok (.aload_n 0, 1) := by decide +kernel
theorem dX10_ruled_46 : decode cX10_ruled 46 = .ok (.getfield 55, 3) := by decide +kernel
theorem dX10_ruled_49 : decode cX10_ruled 49 = .ok (.getfield 114, 3) := by decide +kernel
theorem dX10_ruled_52 : decode cX10_ruled 52 = .ok (.getfield 124, 3) := by decide +kernel
theorem dX10_ruled_55 : decode cX10_ruled 55 = .ok (.invokevirtual 322, 3) := by decide +kernel
theorem dX10_ruled_58 : decode cX10_ruled 58 = .ok (.ifCond .eq 9, 3) := by decide +kernel
theorem dX10_ruled_61 : decode cX10_ruled 61 = .ok (.iinc 2 1, 3) := by decide +kernel
theorem dX10_ruled_64 : decode cX10_ruled 64 = .ok (.iload 4, 2) := by decide +kernel
theorem dX10_ruled_66 : decode cX10_ruled 66 = .ok (.istore_n 3, 1) := by decide +kernel
theorem dX10_ruled_67 : decode cX10_ruled 67 = .ok (.iinc 4 (-1), 3) := by decide +kernel
theorem dX10_ruled_70 : decode cX10_ruled 70 = .ok (.goto (-38), 3) := by decide +kernel
theorem dX10_ruled_73 : decode cX10_ruled 73 = .ok (.iload_n 1, 1) := by decide +kernel
theorem dX10_ruled_74 : decode cX10_ruled 74 = .ok (.ifCond .ne 7, 3) := by decide +kernel
theorem dX10_ruled_77 : decode cX10_ruled 77 = .ok (.iload_n 2, 1) := by decide +kernel
theorem dX10_ruled_78 : decode cX10_ruled 78 = .ok (.goto 4, 3) := by decide +kernel
theorem dX10_ruled_81 : decode cX10_ruled 81 = .ok (.iload_n 3, 1) := by decide +kernel
theorem dX10_ruled_82 : decode cX10_ruled 82 = .ok (.ireturn, 1) := by decide +kernel
theorem dX10_waries_0 : decode cX10_waries 0 = .ok (.aload_n 0, 1) := by decide +kernel
theorem dX10_waries_1 : decode cX10_waries 1 = .ok (.iload_n 1, 1) := by decide +kernel
theorem dX10_waries_2 : decode cX10_waries 2 = .ok (.invokevirtual 168, 3) := by decide +kernel
theorem dX10_waries_5 : decode cX10_waries 5 = .ok (.ifCond .eq 20, 3) := by decide +kernel
theorem dX10_waries_8 : decode cX10_waries 8 = .ok (.aload_n 0, 1) := by decide +kernel
theorem dX10_waries_9 : decode cX10_waries 9 = .ok (.aload_n 0, 1) := by decide +kernel
theorem dX10_waries_10 : decode cX10_waries 10 = .ok (.getfield 83, 3) := by decide +kernel
theorem dX10_waries_13 : decode cX10_waries 13 = .ok (.getfield 180, 3) := by decide +kernel
theorem dX10_waries_16 : decode cX10_waries 16 = .ok (.bipush 10, 2) := by decide +kernel
theorem dX10_waries_18 : decode cX10_waries 18 = .ok (.iload_n 1, 1) := by decide +kernel
theorem dX10_waries_19 : decode cX10_waries 19 = .ok (.invokevirtual 318, 3) := by decide +kernel
theorem dX10_waries_22 : decode cX10_waries 22 = .ok (.goto 4, 3) := by decide +kernel
theorem dX10_waries_25 : decode cX10_waries 25 = .ok (.iconst (-1), 1) := by decide +kernel
theorem dX10_waries_26 : decode cX10_waries 26 = .ok (.ireturn, 1) := by decide +kernel
theorem hd_X10_bestOf : yX10_bestOf.cls ≠ "java/lang/invoke/MethodHandle" ∧ yX10_bestOf.cls ≠ "java/lang/invoke/VarHandle" ∧ (parseMethodDescriptor yX10_bestOf.desc).map (fun d => d.parameters.length) = some 5 := ⟨by decide +kernel, by decide +kernel, by decide +kernel⟩
theorem hd_X10_choicesThatAreSo : yX10_choicesThatAreSo.cls ≠ "java/lang/invoke/MethodHandle" ∧ yX10_choicesThatAreSo.cls ≠ "java/lang/invoke/VarHandle" ∧ (parseMethodDescriptor yX10_choicesThatAreSo.desc).map (fun d => d.parameters.length) = some 3 := ⟨by decide +kernel, by decide +kernel, by decide +kernel⟩
theorem hd_X10_isRest : yX10_isRest.cls ≠ "java/lang/invoke/MethodHandle" ∧ yX10_isRest.cls ≠ "java/lang/invoke/VarHandle" ∧ (parseMethodDescriptor yX10_isRest.desc).map (fun d => d.parameters.length) = some 2 := ⟨by decide +kernel, by decide +kernel, by decide +kernel⟩
theorem hd_X10_mostAlike : yX10_mostAlike.cls ≠ "java/lang/invoke/MethodHandle" ∧ yX10_mostAlike.cls ≠ "java/lang/invoke/VarHandle" ∧ (parseMethodDescriptor yX10_mostAlike.desc).map (fun d => d.parameters.length) = some 1 := ⟨by decide +kernel, by decide +kernel, by decide +kernel⟩
theorem hd_X10_tallyRules : yX10_tallyRules.cls ≠ "java/lang/invoke/MethodHandle" ∧ yX10_tallyRules.cls ≠ "java/lang/invoke/VarHandle" ∧ (parseMethodDescriptor yX10_tallyRules.desc).map (fun d => d.parameters.length) = some 1 := ⟨by decide +kernel, by decide +kernel, by decide +kernel⟩
theorem hd_X10_weighTwos : yX10_weighTwos.cls ≠ "java/lang/invoke/MethodHandle" ∧ yX10_weighTwos.cls ≠ "java/lang/invoke/VarHandle" ∧ (parseMethodDescriptor yX10_weighTwos.desc).map (fun d => d.parameters.length) = some 3 := ⟨by decide +kernel, by decide +kernel, by decide +kernel⟩
set_option maxHeartbeats 4000000 in
set_option maxRecDepth 100000 in
theorem k_best (l : Launch) (D : va_G) (K : Nat → ClassId) (ad : Nat → Nat) (z : TS) (o : Ok z) (x1 : Int32) (x2 : Int32) (x3 : Int32) : cI l yX10_best cX10_best 4 .int ({ frames := 7, cells := 0, slots := 0, locals := 175 }) D K ad z [.ref (ad 0), .int x1, .int x2, .int x3] (fun r u => Ok u ∧ KC z u) := by
  refine t_enterI (by decide) (Nat.le_of_ble_eq_true rfl) rfl rfl ?_
  intro p e s m args below meth c A R Q H locs ls E hfr hlo RET G hl
  have E : mE p s m meth c cX10_best args 4 RX10 D K A := E
  have hl : lv_has ls 4 [(0, .ref (ad 0)), (1, .int x1), (2, .int x2), (3, .int x3)] := hl
  refine lv_aload_n E.1 E.2.1 dX10_best_0 rfl (lv_at hl 0 rfl) ?_
  refine lv_iload_n E.1 E.2.1 dX10_best_1 rfl (lv_at hl 1 rfl) ?_
  refine t_vi E G hl (h_setLure l D K ad z o x1) 10 (rfl : ro 0 = 10) (by decide) rfl rfl 1 rfl mw_code_X10_hasSetLure mw_ini_10 mw_ml_10_236 mw_inst_X10_hasSetLure mw_sel_X10_hasSetLure hd_X10_hasSetLure ⟨Nat.le_trans (by decide) hfr, Nat.le_trans (by decide) hlo⟩ rfl rfl rfl (Nat.le_of_ble_eq_true rfl) dX10_best_2 (fun r2 zz1 H locs hp3 G => ?_)
  obtain ⟨hz6, b4, h5⟩ := hp3
  rw [hz6] at G
  refine lv_if_eq (tgt := 28) E.1 E.2.1 dX10_best_5 (by decide) (fun c7 => ?_) (fun c7 => ?_)
  · skip
    have b8 : iv 0 0 r2 := iv_eq c7 (iv_lit (lo := 0) (hi := 0) 0 (by decide) (by decide))
    refine lv_iconst (v := (-1)) E.1 E.2.1 dX10_best_28 (by decide) ?_
    exact RET G ⟨o, KC.rf⟩ rfl dX10_best_29
  · skip
    have b9 : iv 1 1 r2 := ne_lo c7 b4 (by decide) (by decide)
    have b10 : iv 0 5 x1 := h5 c7
    refine lv_iload_n E.1 E.2.1 dX10_best_8 rfl (lv_at hl 2 rfl) ?_
    refine lv_iconst (v := 1) E.1 E.2.1 dX10_best_9 (by decide) ?_
    refine lv_icmp_lt (tgt := 28) E.1 E.2.1 dX10_best_10 (by decide) (fun c11 => ?_) (fun c11 => ?_)
    · skip
      have b12 : iv (-2147483648) 0 x2 := lt_l c11 (iv_full x2) (iv_lit (lo := 1) (hi := 1) 1 (by decide) (by decide)) (by decide)
      refine lv_iconst (v := (-1)) E.1 E.2.1 dX10_best_28 (by decide) ?_
      exact RET G ⟨o, KC.rf⟩ rfl dX10_best_29
    · skip
      have b13 : iv 1 2147483647 x2 := le_r (Int32.not_lt.mp c11) (iv_lit (lo := 1) (hi := 1) 1 (by decide) (by decide)) (iv_full x2) (by decide)
      refine lv_iload_n E.1 E.2.1 dX10_best_13 rfl (lv_at hl 2 rfl) ?_
      refine lv_bipush (v := 40) E.1 E.2.1 dX10_best_14 (by decide) ?_
      refine lv_icmp_gt (tgt := 28) E.1 E.2.1 dX10_best_16 (by decide) (fun c14 => ?_) (fun c14 => ?_)
      · skip
        have b15 : iv 41 2147483647 x2 := lt_r c14 (iv_lit (lo := 40) (hi := 40) 40 (by decide) (by decide)) b13 (by decide)
        refine lv_iconst (v := (-1)) E.1 E.2.1 dX10_best_28 (by decide) ?_
        exact RET G ⟨o, KC.rf⟩ rfl dX10_best_29
      · skip
        have b16 : iv 1 40 x2 := le_l (Int32.not_lt.mp c14) b13 (iv_lit (lo := 40) (hi := 40) 40 (by decide) (by decide)) (by decide)
        refine lv_iload_n E.1 E.2.1 dX10_best_19 rfl (lv_at hl 3 rfl) ?_
        refine lv_if_lt (tgt := 28) E.1 E.2.1 dX10_best_20 (by decide) (fun c17 => ?_) (fun c17 => ?_)
        · skip
          have b18 : iv (-2147483648) (-1) x3 := lt_l c17 (iv_full x3) (iv_lit (lo := 0) (hi := 0) 0 (by decide) (by decide)) (by decide)
          refine lv_iconst (v := (-1)) E.1 E.2.1 dX10_best_28 (by decide) ?_
          exact RET G ⟨o, KC.rf⟩ rfl dX10_best_29
        · skip
          have b19 : iv 0 2147483647 x3 := le_r (Int32.not_lt.mp c17) (iv_lit (lo := 0) (hi := 0) 0 (by decide) (by decide)) (iv_full x3) (by decide)
          refine lv_iload_n E.1 E.2.1 dX10_best_23 rfl (lv_at hl 3 rfl) ?_
          refine lv_iconst (v := 1) E.1 E.2.1 dX10_best_24 (by decide) ?_
          refine lv_icmp_le (tgt := 30) E.1 E.2.1 dX10_best_25 (by decide) (fun c20 => ?_) (fun c20 => ?_)
          · skip
            have b21 : iv 0 1 x3 := le_l c20 b19 (iv_lit (lo := 1) (hi := 1) 1 (by decide) (by decide)) (by decide)
            refine lv_aload_n E.1 E.2.1 dX10_best_30 rfl (lv_at hl 0 rfl) ?_
            refine lv_aload_n E.1 E.2.1 dX10_best_31 rfl (lv_at hl 0 rfl) ?_
            refine t_get E G 10 12 (rfl : ro 0 = 10) (C := RX10) (T := TX10) (N := 17) rfl (by decide) (by decide) (by decide) mw_fl_10_83 (v := .ref (ad 335)) (fvl_o (n := 335) rfl) dX10_best_32 ?_
            refine t_get E G 6 4 (rfl : ro 335 = 6) (C := RX6) (T := TX6) (N := 8) rfl (by decide) (by decide) (by decide) mw_fl_10_153 (v := .ref (ad 340)) (fvl_o (n := 5) rfl) dX10_best_35 ?_
            refine lv_aload_n E.1 E.2.1 dX10_best_38 rfl (lv_at hl 0 rfl) ?_
            refine t_get E G 10 7 (rfl : ro 0 = 10) (C := RX10) (T := TX10) (N := 17) rfl (by decide) (by decide) (by decide) mw_fl_10_55 (v := .ref (ad 56)) (fvl_o (n := 56) rfl) dX10_best_39 ?_
            refine t_get E G 2 0 (rfl : ro 56 = 2) (C := RX2) (T := TX2) (N := 5) rfl (by decide) (by decide) (by decide) mw_fl_10_114 (v := .ref (ad 57)) (fvl_o (n := 1) rfl) dX10_best_42 ?_
            refine t_get E G 8 0 (rfl : ro 57 = 8) (C := RX8) (T := TX8) (N := 10) rfl (by decide) (by decide) (by decide) mw_fl_10_192 (fvl_i rfl) dX10_best_45 ?_
            refine lv_topi (fun v22 e23 => ?_)
            have b24 : iv 0 8 v22 := by rw [e23]; exact o.i 8 0 (rfl : ro 57 = 8)
            refine lv_iload_n E.1 E.2.1 dX10_best_48 rfl (lv_at hl 1 rfl) ?_
            refine lv_iload_n E.1 E.2.1 dX10_best_49 rfl (lv_at hl 2 rfl) ?_
            refine lv_iload_n E.1 E.2.1 dX10_best_50 rfl (lv_at hl 3 rfl) ?_
            refine t_vi E G hl (k_bestOf_340 l D K ad z o v22 (iv_mono b24 (by decide) (by decide)) x1 (iv_mono b10 (by decide) (by decide)) x2 (iv_mono b16 (by decide) (by decide)) x3) 10 (rfl : ro 0 = 10) (by decide) rfl rfl 5 rfl mw_code_X10_bestOf mw_ini_10 mw_ml_10_292 mw_inst_X10_bestOf mw_sel_X10_bestOf hd_X10_bestOf ⟨Nat.le_trans (by decide) hfr, Nat.le_trans (by decide) hlo⟩ rfl rfl rfl (Nat.le_of_ble_eq_true rfl) dX10_best_51 (fun r26 zz25 H locs hp27 G => ?_)
            obtain ⟨oo28, kk29⟩ := hp27
            have kk30 : KC z zz25 := KC.tr KC.rf kk29
            exact RET G ⟨oo28, kk30⟩ rfl dX10_best_54
          · skip
            have b31 : iv 2 2147483647 x3 := lt_r (Int32.not_le.mp c20) (iv_lit (lo := 1) (hi := 1) 1 (by decide) (by decide)) b19 (by decide)
            refine lv_iconst (v := (-1)) E.1 E.2.1 dX10_best_28 (by decide) ?_
            exact RET G ⟨o, KC.rf⟩ rfl dX10_best_29
set_option maxHeartbeats 4000000 in
set_option maxRecDepth 100000 in
theorem k_kind (l : Launch) (D : va_G) (K : Nat → ClassId) (ad : Nat → Nat) (z : TS) (o : Ok z) (x1 : Int32) (x2 : Int32) (x3 : Int32) : cI l yX10_kind cX10_kind 4 .int ({ frames := 7, cells := 0, slots := 0, locals := 175 }) D K ad z [.ref (ad 0), .int x1, .int x2, .int x3] (fun r u => Ok u ∧ KC z u) := by
  refine t_enterI (by decide) (Nat.le_of_ble_eq_true rfl) rfl rfl ?_
  intro p e s m args below meth c A R Q H locs ls E hfr hlo RET G hl
  have E : mE p s m meth c cX10_kind args 4 RX10 D K A := E
  have hl : lv_has ls 4 [(0, .ref (ad 0)), (1, .int x1), (2, .int x2), (3, .int x3)] := hl
  refine lv_aload_n E.1 E.2.1 dX10_kind_0 rfl (lv_at hl 0 rfl) ?_
  refine lv_iload_n E.1 E.2.1 dX10_kind_1 rfl (lv_at hl 1 rfl) ?_
  refine t_vi E G hl (h_setLure l D K ad z o x1) 10 (rfl : ro 0 = 10) (by decide) rfl rfl 1 rfl mw_code_X10_hasSetLure mw_ini_10 mw_ml_10_236 mw_inst_X10_hasSetLure mw_sel_X10_hasSetLure hd_X10_hasSetLure ⟨Nat.le_trans (by decide) hfr, Nat.le_trans (by decide) hlo⟩ rfl rfl rfl (Nat.le_of_ble_eq_true rfl) dX10_kind_2 (fun r2 zz1 H locs hp3 G => ?_)
  obtain ⟨hz6, b4, h5⟩ := hp3
  rw [hz6] at G
  refine lv_if_eq (tgt := 28) E.1 E.2.1 dX10_kind_5 (by decide) (fun c7 => ?_) (fun c7 => ?_)
  · skip
    have b8 : iv 0 0 r2 := iv_eq c7 (iv_lit (lo := 0) (hi := 0) 0 (by decide) (by decide))
    refine lv_iconst (v := (-1)) E.1 E.2.1 dX10_kind_28 (by decide) ?_
    exact RET G ⟨o, KC.rf⟩ rfl dX10_kind_29
  · skip
    have b9 : iv 1 1 r2 := ne_lo c7 b4 (by decide) (by decide)
    have b10 : iv 0 5 x1 := h5 c7
    refine lv_iload_n E.1 E.2.1 dX10_kind_8 rfl (lv_at hl 2 rfl) ?_
    refine lv_iconst (v := 1) E.1 E.2.1 dX10_kind_9 (by decide) ?_
    refine lv_icmp_lt (tgt := 28) E.1 E.2.1 dX10_kind_10 (by decide) (fun c11 => ?_) (fun c11 => ?_)
    · skip
      have b12 : iv (-2147483648) 0 x2 := lt_l c11 (iv_full x2) (iv_lit (lo := 1) (hi := 1) 1 (by decide) (by decide)) (by decide)
      refine lv_iconst (v := (-1)) E.1 E.2.1 dX10_kind_28 (by decide) ?_
      exact RET G ⟨o, KC.rf⟩ rfl dX10_kind_29
    · skip
      have b13 : iv 1 2147483647 x2 := le_r (Int32.not_lt.mp c11) (iv_lit (lo := 1) (hi := 1) 1 (by decide) (by decide)) (iv_full x2) (by decide)
      refine lv_iload_n E.1 E.2.1 dX10_kind_13 rfl (lv_at hl 2 rfl) ?_
      refine lv_bipush (v := 40) E.1 E.2.1 dX10_kind_14 (by decide) ?_
      refine lv_icmp_gt (tgt := 28) E.1 E.2.1 dX10_kind_16 (by decide) (fun c14 => ?_) (fun c14 => ?_)
      · skip
        have b15 : iv 41 2147483647 x2 := lt_r c14 (iv_lit (lo := 40) (hi := 40) 40 (by decide) (by decide)) b13 (by decide)
        refine lv_iconst (v := (-1)) E.1 E.2.1 dX10_kind_28 (by decide) ?_
        exact RET G ⟨o, KC.rf⟩ rfl dX10_kind_29
      · skip
        have b16 : iv 1 40 x2 := le_l (Int32.not_lt.mp c14) b13 (iv_lit (lo := 40) (hi := 40) 40 (by decide) (by decide)) (by decide)
        refine lv_iload_n E.1 E.2.1 dX10_kind_19 rfl (lv_at hl 3 rfl) ?_
        refine lv_if_lt (tgt := 28) E.1 E.2.1 dX10_kind_20 (by decide) (fun c17 => ?_) (fun c17 => ?_)
        · skip
          have b18 : iv (-2147483648) (-1) x3 := lt_l c17 (iv_full x3) (iv_lit (lo := 0) (hi := 0) 0 (by decide) (by decide)) (by decide)
          refine lv_iconst (v := (-1)) E.1 E.2.1 dX10_kind_28 (by decide) ?_
          exact RET G ⟨o, KC.rf⟩ rfl dX10_kind_29
        · skip
          have b19 : iv 0 2147483647 x3 := le_r (Int32.not_lt.mp c17) (iv_lit (lo := 0) (hi := 0) 0 (by decide) (by decide)) (iv_full x3) (by decide)
          refine lv_iload_n E.1 E.2.1 dX10_kind_23 rfl (lv_at hl 3 rfl) ?_
          refine lv_iconst (v := 1) E.1 E.2.1 dX10_kind_24 (by decide) ?_
          refine lv_icmp_le (tgt := 30) E.1 E.2.1 dX10_kind_25 (by decide) (fun c20 => ?_) (fun c20 => ?_)
          · skip
            have b21 : iv 0 1 x3 := le_l c20 b19 (iv_lit (lo := 1) (hi := 1) 1 (by decide) (by decide)) (by decide)
            refine lv_aload_n E.1 E.2.1 dX10_kind_30 rfl (lv_at hl 0 rfl) ?_
            refine lv_aload_n E.1 E.2.1 dX10_kind_31 rfl (lv_at hl 0 rfl) ?_
            refine t_get E G 10 12 (rfl : ro 0 = 10) (C := RX10) (T := TX10) (N := 17) rfl (by decide) (by decide) (by decide) mw_fl_10_83 (v := .ref (ad 335)) (fvl_o (n := 335) rfl) dX10_kind_32 ?_
            refine t_get E G 6 5 (rfl : ro 335 = 6) (C := RX6) (T := TX6) (N := 8) rfl (by decide) (by decide) (by decide) mw_fl_10_156 (v := .ref (ad 341)) (fvl_o (n := 6) rfl) dX10_kind_35 ?_
            refine lv_bipush (v := 8) E.1 E.2.1 dX10_kind_38 (by decide) ?_
            refine lv_iload_n E.1 E.2.1 dX10_kind_40 rfl (lv_at hl 1 rfl) ?_
            refine lv_iload_n E.1 E.2.1 dX10_kind_41 rfl (lv_at hl 2 rfl) ?_
            refine lv_iload_n E.1 E.2.1 dX10_kind_42 rfl (lv_at hl 3 rfl) ?_
            refine t_vi E G hl (k_bestOf_341 l D K ad z o (8 : Int32) (iv_mono (iv_lit (lo := 8) (hi := 8) 8 (by decide) (by decide)) (by decide) (by decide)) x1 (iv_mono b10 (by decide) (by decide)) x2 (iv_mono b16 (by decide) (by decide)) x3) 10 (rfl : ro 0 = 10) (by decide) rfl rfl 5 rfl mw_code_X10_bestOf mw_ini_10 mw_ml_10_292 mw_inst_X10_bestOf mw_sel_X10_bestOf hd_X10_bestOf ⟨Nat.le_trans (by decide) hfr, Nat.le_trans (by decide) hlo⟩ rfl rfl rfl (Nat.le_of_ble_eq_true rfl) dX10_kind_43 (fun r23 zz22 H locs hp24 G => ?_)
            obtain ⟨oo25, kk26⟩ := hp24
            have kk27 : KC z zz22 := KC.tr KC.rf kk26
            exact RET G ⟨oo25, kk27⟩ rfl dX10_kind_46
          · skip
            have b28 : iv 2 2147483647 x3 := lt_r (Int32.not_le.mp c20) (iv_lit (lo := 1) (hi := 1) 1 (by decide) (by decide)) b19 (by decide)
            refine lv_iconst (v := (-1)) E.1 E.2.1 dX10_kind_28 (by decide) ?_
            exact RET G ⟨o, KC.rf⟩ rfl dX10_kind_29
set_option maxHeartbeats 4000000 in
set_option maxRecDepth 100000 in
theorem k_rests (l : Launch) (D : va_G) (K : Nat → ClassId) (ad : Nat → Nat) (z : TS) (o : Ok z) (x1 : Int32) (x2 : Int32) (x3 : Int32) (x4 : Int32) : cI l yX10_rests cX10_rests 8 .int ({ frames := 7, cells := 0, slots := 0, locals := 171 }) D K ad z [.ref (ad 0), .int x1, .int x2, .int x3, .int x4] (fun r u => Ok u ∧ KC z u) := by
  refine t_enterI (by decide) (Nat.le_of_ble_eq_true rfl) rfl rfl ?_
  intro p e s m args below meth c A R Q H locs ls E hfr hlo RET G hl
  have E : mE p s m meth c cX10_rests args 8 RX10 D K A := E
  have hl : lv_has ls 8 [(0, .ref (ad 0)), (1, .int x1), (2, .int x2), (3, .int x3), (4, .int x4)] := hl
  refine lv_aload_n E.1 E.2.1 dX10_rests_0 rfl (lv_at hl 0 rfl) ?_
  refine lv_iload_n E.1 E.2.1 dX10_rests_1 rfl (lv_at hl 1 rfl) ?_
  refine t_vi E G hl (h_setLure l D K ad z o x1) 10 (rfl : ro 0 = 10) (by decide) rfl rfl 1 rfl mw_code_X10_hasSetLure mw_ini_10 mw_ml_10_236 mw_inst_X10_hasSetLure mw_sel_X10_hasSetLure hd_X10_hasSetLure ⟨Nat.le_trans (by decide) hfr, Nat.le_trans (by decide) hlo⟩ rfl rfl rfl (Nat.le_of_ble_eq_true rfl) dX10_rests_2 (fun r2 zz1 H locs hp3 G => ?_)
  obtain ⟨hz6, b4, h5⟩ := hp3
  rw [hz6] at G
  refine lv_if_eq (tgt := 21) E.1 E.2.1 dX10_rests_5 (by decide) (fun c7 => ?_) (fun c7 => ?_)
  · skip
    have b8 : iv 0 0 r2 := iv_eq c7 (iv_lit (lo := 0) (hi := 0) 0 (by decide) (by decide))
    refine lv_iconst (v := (-1)) E.1 E.2.1 dX10_rests_21 (by decide) ?_
    exact RET G ⟨o, KC.rf⟩ rfl dX10_rests_22
  · skip
    have b9 : iv 1 1 r2 := ne_lo c7 b4 (by decide) (by decide)
    have b10 : iv 0 5 x1 := h5 c7
    refine lv_aload_n E.1 E.2.1 dX10_rests_8 rfl (lv_at hl 0 rfl) ?_
    refine lv_iload_n E.1 E.2.1 dX10_rests_9 rfl (lv_at hl 2 rfl) ?_
    refine t_vi E G hl (h_setLure l D K ad z o x2) 10 (rfl : ro 0 = 10) (by decide) rfl rfl 1 rfl mw_code_X10_hasSetLure mw_ini_10 mw_ml_10_236 mw_inst_X10_hasSetLure mw_sel_X10_hasSetLure hd_X10_hasSetLure ⟨Nat.le_trans (by decide) hfr, Nat.le_trans (by decide) hlo⟩ rfl rfl rfl (Nat.le_of_ble_eq_true rfl) dX10_rests_10 (fun r12 zz11 H locs hp13 G => ?_)
    obtain ⟨hz16, b14, h15⟩ := hp13
    rw [hz16] at G
    refine lv_if_eq (tgt := 21) E.1 E.2.1 dX10_rests_13 (by decide) (fun c17 => ?_) (fun c17 => ?_)
    · skip
      have b18 : iv 0 0 r12 := iv_eq c17 (iv_lit (lo := 0) (hi := 0) 0 (by decide) (by decide))
      refine lv_iconst (v := (-1)) E.1 E.2.1 dX10_rests_21 (by decide) ?_
      exact RET G ⟨o, KC.rf⟩ rfl dX10_rests_22
    · skip
      have b19 : iv 1 1 r12 := ne_lo c17 b14 (by decide) (by decide)
      have b20 : iv 0 5 x2 := h15 c17
      refine lv_iload_n E.1 E.2.1 dX10_rests_16 rfl (lv_at hl 1 rfl) ?_
      refine lv_iload_n E.1 E.2.1 dX10_rests_17 rfl (lv_at hl 2 rfl) ?_
      refine lv_icmp_ne (tgt := 23) E.1 E.2.1 dX10_rests_18 (by decide) (fun c21 => ?_) (fun c21 => ?_)
      · skip
        refine lv_iload_n E.1 E.2.1 dX10_rests_23 rfl (lv_at hl 3 rfl) ?_
        refine lv_iconst (v := 1) E.1 E.2.1 dX10_rests_24 (by decide) ?_
        refine lv_icmp_lt (tgt := 45) E.1 E.2.1 dX10_rests_25 (by decide) (fun c22 => ?_) (fun c22 => ?_)
        · skip
          have b23 : iv (-2147483648) 0 x3 := lt_l c22 (iv_full x3) (iv_lit (lo := 1) (hi := 1) 1 (by decide) (by decide)) (by decide)
          refine lv_iconst (v := (-1)) E.1 E.2.1 dX10_rests_45 (by decide) ?_
          exact RET G ⟨o, KC.rf⟩ rfl dX10_rests_46
        · skip
          have b24 : iv 1 2147483647 x3 := le_r (Int32.not_lt.mp c22) (iv_lit (lo := 1) (hi := 1) 1 (by decide) (by decide)) (iv_full x3) (by decide)
          refine lv_iload_n E.1 E.2.1 dX10_rests_28 rfl (lv_at hl 3 rfl) ?_
          refine lv_bipush (v := 20) E.1 E.2.1 dX10_rests_29 (by decide) ?_
          refine lv_icmp_gt (tgt := 45) E.1 E.2.1 dX10_rests_31 (by decide) (fun c25 => ?_) (fun c25 => ?_)
          · skip
            have b26 : iv 21 2147483647 x3 := lt_r c25 (iv_lit (lo := 20) (hi := 20) 20 (by decide) (by decide)) b24 (by decide)
            refine lv_iconst (v := (-1)) E.1 E.2.1 dX10_rests_45 (by decide) ?_
            exact RET G ⟨o, KC.rf⟩ rfl dX10_rests_46
          · skip
            have b27 : iv 1 20 x3 := le_l (Int32.not_lt.mp c25) b24 (iv_lit (lo := 20) (hi := 20) 20 (by decide) (by decide)) (by decide)
            refine lv_iload E.1 E.2.1 dX10_rests_34 (lv_at hl 4 rfl) ?_
            refine lv_if_lt (tgt := 45) E.1 E.2.1 dX10_rests_36 (by decide) (fun c28 => ?_) (fun c28 => ?_)
            · skip
              have b29 : iv (-2147483648) (-1) x4 := lt_l c28 (iv_full x4) (iv_lit (lo := 0) (hi := 0) 0 (by decide) (by decide)) (by decide)
              refine lv_iconst (v := (-1)) E.1 E.2.1 dX10_rests_45 (by decide) ?_
              exact RET G ⟨o, KC.rf⟩ rfl dX10_rests_46
            · skip
              have b30 : iv 0 2147483647 x4 := le_r (Int32.not_lt.mp c28) (iv_lit (lo := 0) (hi := 0) 0 (by decide) (by decide)) (iv_full x4) (by decide)
              refine lv_iload E.1 E.2.1 dX10_rests_39 (lv_at hl 4 rfl) ?_
              refine lv_iconst (v := 2) E.1 E.2.1 dX10_rests_41 (by decide) ?_
              refine lv_icmp_le (tgt := 47) E.1 E.2.1 dX10_rests_42 (by decide) (fun c31 => ?_) (fun c31 => ?_)
              · skip
                have b32 : iv 0 2 x4 := le_l c31 b30 (iv_lit (lo := 2) (hi := 2) 2 (by decide) (by decide)) (by decide)
                refine lv_aload_n E.1 E.2.1 dX10_rests_47 rfl (lv_at hl 0 rfl) ?_
                refine lv_iload_n E.1 E.2.1 dX10_rests_48 rfl (lv_at hl 1 rfl) ?_
                refine lv_iload_n E.1 E.2.1 dX10_rests_49 rfl (lv_at hl 2 rfl) ?_
                refine lv_iload_n E.1 E.2.1 dX10_rests_50 rfl (lv_at hl 3 rfl) ?_
                refine t_vv E G hl (k_weighTwos l D K ad z o x1 (iv_mono b10 (by decide) (by decide)) x2 (iv_mono b20 (by decide) (by decide)) x3 (iv_mono b27 (by decide) (by decide))) 10 (rfl : ro 0 = 10) (by decide) rfl rfl 3 rfl mw_code_X10_weighTwos mw_ini_10 mw_ml_10_303 mw_inst_X10_weighTwos mw_sel_X10_weighTwos hd_X10_weighTwos ⟨Nat.le_trans (by decide) hfr, Nat.le_trans (by decide) hlo⟩ rfl rfl rfl (Nat.le_of_ble_eq_true rfl) dX10_rests_51 (fun zz33 H locs hp35 G => ?_)
                obtain ⟨oo36, kk37⟩ := hp35
                have kk38 : KC z zz33 := KC.tr KC.rf kk37
                refine lv_iconst (v := 0) E.1 E.2.1 dX10_rests_54 (by decide) ?_
                refine lv_istore (lv' := [(5, .int 0), (0, .ref (ad 0)), (1, .int x1), (2, .int x2), (3, .int x3), (4, .int x4)]) E.1 E.2.1 dX10_rests_55 hl (by decide) rfl (fun ls hl => ?_)
                refine lv_iconst (v := (-1)) E.1 E.2.1 dX10_rests_57 (by decide) ?_
                refine lv_istore (lv' := [(6, .int (-1)), (5, .int 0), (0, .ref (ad 0)), (1, .int x1), (2, .int x2), (3, .int x3), (4, .int x4)]) E.1 E.2.1 dX10_rests_58 hl (by decide) rfl (fun ls hl => ?_)
                refine lv_iconst (v := 0) E.1 E.2.1 dX10_rests_60 (by decide) ?_
                refine lv_istore (lv' := [(7, .int 0), (6, .int (-1)), (5, .int 0), (0, .ref (ad 0)), (1, .int x1), (2, .int x2), (3, .int x3), (4, .int x4)]) E.1 E.2.1 dX10_rests_61 hl (by decide) rfl (fun ls hl => ?_)
                have LOOP63 : ∀ n : Nat, ∀ (y39 : Int32) (y40 : Int32) (y41 : Int32) (H : Heap) (locs : List Loc) (ls : Array Slot), mG D A s H locs (wd K ad zz33) → iv 0 64 y39 → iv (-1) 63 y40 → 64 < y39.toInt + (n : Int) → lv_has ls 8 [(7, .int y39), (6, .int y40), (5, .int y41), (0, .ref (ad 0)), (1, .int x1), (2, .int x2), (3, .int x3), (4, .int x4)] → W p l e R s m args below meth c H locs 0 0 Q (F0 m 63 ls []) := by
                  intro n
                  induction n with
                  | zero =>
                    intro y39 y40 y41 H locs ls G b46 b47 m45 hl
                    exact absurd m45 (by have := b46.1; have := b46.2; omega)
                  | succ n ih63 =>
                    intro y39 y40 y41 H locs ls G b46 b47 m45 hl
                    refine lv_iload E.1 E.2.1 dX10_rests_63 (lv_at hl 0 rfl) ?_
                    refine lv_bipush (v := 64) E.1 E.2.1 dX10_rests_65 (by decide) ?_
                    refine lv_icmp_ge (tgt := 111) E.1 E.2.1 dX10_rests_67 (by decide) (fun c48 => ?_) (fun c48 => ?_)
                    · skip
                      have b49 : iv 64 64 y39 := le_r c48 (iv_lit (lo := 64) (hi := 64) 64 (by decide) (by decide)) b46 (by decide)
                      refine lv_iload E.1 E.2.1 dX10_rests_111 (lv_at hl 7 rfl) ?_
                      refine lv_if_ne (tgt := 119) E.1 E.2.1 dX10_rests_113 (by decide) (fun c50 => ?_) (fun c50 => ?_)
                      · skip
                        have b51 : iv 1 2 x4 := ne_lo c50 b32 (by decide) (by decide)
                        refine lv_iload E.1 E.2.1 dX10_rests_119 (lv_at hl 1 rfl) ?_
                        refine lv_iconst (v := (-1)) E.1 E.2.1 dX10_rests_121 (by decide) ?_
                        refine lv_icmp_ne (tgt := 128) E.1 E.2.1 dX10_rests_122 (by decide) (fun c52 => ?_) (fun c52 => ?_)
                        · skip
                          have b53 : iv 0 63 y40 := ne_lo c52 b47 (by decide) (by decide)
                          refine lv_iload E.1 E.2.1 dX10_rests_128 (lv_at hl 7 rfl) ?_
                          refine lv_iconst (v := 1) E.1 E.2.1 dX10_rests_130 (by decide) ?_
                          refine lv_icmp_ne (tgt := 142) E.1 E.2.1 dX10_rests_131 (by decide) (fun c54 => ?_) (fun c54 => ?_)
                          · skip
                            have b55 : iv 2 2 x4 := ne_lo c54 b51 (by decide) (by decide)
                            refine lv_iload E.1 E.2.1 dX10_rests_142 (lv_at hl 1 rfl) ?_
                            refine lv_bipush (v := 8) E.1 E.2.1 dX10_rests_144 (by decide) ?_
                            refine lv_irem E.1 E.2.1 dX10_rests_146 (by decide) ?_
                            refine lv_topi (fun v56 e57 => ?_)
                            have b58 : iv 0 7 v56 := by rw [e57]; exact iv_rem b53 8 (by decide) (by decide) (by decide)
                            exact RET G ⟨oo36, kk38⟩ rfl dX10_rests_147
                          · skip
                            have b59 : iv 1 1 x4 := iv_eq c54 (iv_lit (lo := 1) (hi := 1) 1 (by decide) (by decide))
                            refine lv_iload E.1 E.2.1 dX10_rests_134 (lv_at hl 1 rfl) ?_
                            refine lv_bipush (v := 8) E.1 E.2.1 dX10_rests_136 (by decide) ?_
                            refine lv_idiv E.1 E.2.1 dX10_rests_138 (by decide) ?_
                            refine lv_topi (fun v60 e61 => ?_)
                            have b62 : iv 0 7 v60 := by rw [e61]; exact iv_div b53 8 (by decide) (by decide) (by decide) (by decide) (by decide)
                            refine lv_goto (tgt := 147) E.1 E.2.1 dX10_rests_139 (by decide) ?_
                            exact RET G ⟨oo36, kk38⟩ rfl dX10_rests_147
                        · skip
                          have b63 : iv (-1) (-1) y40 := iv_eq c52 (iv_lit (lo := (-1)) (hi := (-1)) (-1) (by decide) (by decide))
                          refine lv_bipush (v := (-2)) E.1 E.2.1 dX10_rests_125 (by decide) ?_
                          exact RET G ⟨oo36, kk38⟩ rfl dX10_rests_127
                      · skip
                        have b64 : iv 0 0 x4 := iv_eq c50 (iv_lit (lo := 0) (hi := 0) 0 (by decide) (by decide))
                        refine lv_iload E.1 E.2.1 dX10_rests_116 (lv_at hl 2 rfl) ?_
                        exact RET G ⟨oo36, kk38⟩ rfl dX10_rests_118
                    · skip
                      have b65 : iv 0 63 y39 := lt_l (Int32.not_le.mp c48) b46 (iv_lit (lo := 64) (hi := 64) 64 (by decide) (by decide)) (by decide)
                      refine lv_aload_n E.1 E.2.1 dX10_rests_70 rfl (lv_at hl 3 rfl) ?_
                      refine lv_iload E.1 E.2.1 dX10_rests_71 (lv_at hl 0 rfl) ?_
                      refine lv_bipush (v := 8) E.1 E.2.1 dX10_rests_73 (by decide) ?_
                      refine lv_idiv E.1 E.2.1 dX10_rests_75 (by decide) ?_
                      refine lv_topi (fun v66 e67 => ?_)
                      have b68 : iv 0 7 v66 := by rw [e67]; exact iv_div b65 8 (by decide) (by decide) (by decide) (by decide) (by decide)
                      refine lv_iload E.1 E.2.1 dX10_rests_76 (lv_at hl 0 rfl) ?_
                      refine lv_bipush (v := 8) E.1 E.2.1 dX10_rests_78 (by decide) ?_
                      refine lv_irem E.1 E.2.1 dX10_rests_80 (by decide) ?_
                      refine lv_topi (fun v69 e70 => ?_)
                      have b71 : iv 0 7 v69 := by rw [e70]; exact iv_rem b65 8 (by decide) (by decide) (by decide)
                      refine t_vi E G hl (k_isRest l D K ad zz33 oo36 v66 (iv_mono b68 (by decide) (by decide)) v69 (iv_mono b71 (by decide) (by decide))) 10 (rfl : ro 0 = 10) (by decide) rfl rfl 2 rfl mw_code_X10_isRest mw_ini_10 mw_ml_10_307 mw_inst_X10_isRest mw_sel_X10_isRest hd_X10_isRest ⟨Nat.le_trans (by decide) hfr, Nat.le_trans (by decide) hlo⟩ rfl rfl rfl (Nat.le_of_ble_eq_true rfl) dX10_rests_81 (fun r73 zz72 H locs hp74 G => ?_)
                      obtain ⟨hz76, b75⟩ := hp74
                      rw [hz76] at G
                      refine lv_if_eq (tgt := 105) E.1 E.2.1 dX10_rests_84 (by decide) (fun c77 => ?_) (fun c77 => ?_)
                      · skip
                        have b78 : iv 0 0 r73 := iv_eq c77 (iv_lit (lo := 0) (hi := 0) 0 (by decide) (by decide))
                        obtain ⟨v79, e80⟩ : ∃ w : Int32, w = y39 + (1 : Int32) := ⟨_, rfl⟩
                        refine lv_iinc (v := v79) (lv' := [(7, .int v79), (6, .int y40), (5, .int y41), (0, .ref (ad 0)), (1, .int x1), (2, .int x2), (3, .int x3), (4, .int x4)]) E.1 E.2.1 dX10_rests_105 hl (k := 0) rfl (by rw [e80]; rfl) (by decide) rfl (fun ls hl => ?_)
                        have b81 : iv 1 64 v79 := by rw [e80]; exact iv_add b65 (iv_lit (lo := 1) (hi := 1) 1 (by decide) (by decide)) (by decide) (by decide) (by decide) (by decide)
                        have t82 : v79.toInt = y39.toInt + 1 := by rw [e80]; exact ti_addc 1 (by decide) b65 (by decide) (by decide)
                        refine lv_goto (tgt := 63) E.1 E.2.1 dX10_rests_108 (by decide) ?_
                        exact ih63 v79 y40 y41 H locs ls G (iv_mono b81 (by decide) (by decide)) (iv_mono b47 (by decide) (by decide)) (by have := t82; have := m45; omega) (lv_sub hl [0, 1, 2, 3, 4, 5, 6, 7] rfl)
                      · skip
                        have b83 : iv 1 1 r73 := ne_lo c77 b75 (by decide) (by decide)
                        obtain ⟨v84, e85⟩ : ∃ w : Int32, w = y41 + (1 : Int32) := ⟨_, rfl⟩
                        refine lv_iinc (v := v84) (lv' := [(5, .int v84), (7, .int y39), (6, .int y40), (0, .ref (ad 0)), (1, .int x1), (2, .int x2), (3, .int x3), (4, .int x4)]) E.1 E.2.1 dX10_rests_87 hl (k := 2) rfl (by rw [e85]; rfl) (by decide) rfl (fun ls hl => ?_)
                        refine lv_iload E.1 E.2.1 dX10_rests_90 (lv_at hl 2 rfl) ?_
                        refine lv_iconst (v := (-1)) E.1 E.2.1 dX10_rests_92 (by decide) ?_
                        refine lv_icmp_ne (tgt := 101) E.1 E.2.1 dX10_rests_93 (by decide) (fun c86 => ?_) (fun c86 => ?_)
                        · skip
                          have b87 : iv 0 63 y40 := ne_lo c86 b47 (by decide) (by decide)
                          refine lv_iload E.1 E.2.1 dX10_rests_101 (lv_at hl 2 rfl) ?_
                          refine lv_istore (lv' := [(6, .int y40), (5, .int v84), (7, .int y39), (0, .ref (ad 0)), (1, .int x1), (2, .int x2), (3, .int x3), (4, .int x4)]) E.1 E.2.1 dX10_rests_103 hl (by decide) rfl (fun ls hl => ?_)
                          obtain ⟨v88, e89⟩ : ∃ w : Int32, w = y39 + (1 : Int32) := ⟨_, rfl⟩
                          refine lv_iinc (v := v88) (lv' := [(7, .int v88), (6, .int y40), (5, .int v84), (0, .ref (ad 0)), (1, .int x1), (2, .int x2), (3, .int x3), (4, .int x4)]) E.1 E.2.1 dX10_rests_105 hl (k := 2) rfl (by rw [e89]; rfl) (by decide) rfl (fun ls hl => ?_)
                          have b90 : iv 1 64 v88 := by rw [e89]; exact iv_add b65 (iv_lit (lo := 1) (hi := 1) 1 (by decide) (by decide)) (by decide) (by decide) (by decide) (by decide)
                          have t91 : v88.toInt = y39.toInt + 1 := by rw [e89]; exact ti_addc 1 (by decide) b65 (by decide) (by decide)
                          refine lv_goto (tgt := 63) E.1 E.2.1 dX10_rests_108 (by decide) ?_
                          exact ih63 v88 y40 v84 H locs ls G (iv_mono b90 (by decide) (by decide)) (iv_mono b87 (by decide) (by decide)) (by have := t91; have := m45; omega) (lv_sub hl [0, 1, 2, 3, 4, 5, 6, 7] rfl)
                        · skip
                          have b92 : iv (-1) (-1) y40 := iv_eq c86 (iv_lit (lo := (-1)) (hi := (-1)) (-1) (by decide) (by decide))
                          refine lv_iload E.1 E.2.1 dX10_rests_96 (lv_at hl 1 rfl) ?_
                          refine lv_goto (tgt := 103) E.1 E.2.1 dX10_rests_98 (by decide) ?_
                          refine lv_istore (lv' := [(6, .int y39), (5, .int v84), (7, .int y39), (0, .ref (ad 0)), (1, .int x1), (2, .int x2), (3, .int x3), (4, .int x4)]) E.1 E.2.1 dX10_rests_103 hl (by decide) rfl (fun ls hl => ?_)
                          obtain ⟨v93, e94⟩ : ∃ w : Int32, w = y39 + (1 : Int32) := ⟨_, rfl⟩
                          refine lv_iinc (v := v93) (lv' := [(7, .int v93), (6, .int y39), (5, .int v84), (0, .ref (ad 0)), (1, .int x1), (2, .int x2), (3, .int x3), (4, .int x4)]) E.1 E.2.1 dX10_rests_105 hl (k := 2) rfl (by rw [e94]; rfl) (by decide) rfl (fun ls hl => ?_)
                          have b95 : iv 1 64 v93 := by rw [e94]; exact iv_add b65 (iv_lit (lo := 1) (hi := 1) 1 (by decide) (by decide)) (by decide) (by decide) (by decide) (by decide)
                          have t96 : v93.toInt = y39.toInt + 1 := by rw [e94]; exact ti_addc 1 (by decide) b65 (by decide) (by decide)
                          refine lv_goto (tgt := 63) E.1 E.2.1 dX10_rests_108 (by decide) ?_
                          exact ih63 v93 y39 v84 H locs ls G (iv_mono b95 (by decide) (by decide)) (iv_mono b65 (by decide) (by decide)) (by have := t96; have := m45; omega) (lv_sub hl [0, 1, 2, 3, 4, 5, 6, 7] rfl)
                exact LOOP63 65 0 (-1) 0 H locs ls G (iv_mono (iv_lit (lo := 0) (hi := 0) 0 (by decide) (by decide)) (by decide) (by decide)) (iv_mono (iv_lit (lo := (-1)) (hi := (-1)) (-1) (by decide) (by decide)) (by decide) (by decide)) (by have := (iv_lit (lo := 0) (hi := 0) 0 (by decide) (by decide)).1; omega) (lv_sub hl [0, 1, 2, 3, 4, 5, 6, 7] rfl)
              · skip
                have b97 : iv 3 2147483647 x4 := lt_r (Int32.not_le.mp c31) (iv_lit (lo := 2) (hi := 2) 2 (by decide) (by decide)) b30 (by decide)
                refine lv_iconst (v := (-1)) E.1 E.2.1 dX10_rests_45 (by decide) ?_
                exact RET G ⟨o, KC.rf⟩ rfl dX10_rests_46
      · skip
        refine lv_iconst (v := (-1)) E.1 E.2.1 dX10_rests_21 (by decide) ?_
        exact RET G ⟨o, KC.rf⟩ rfl dX10_rests_22
set_option maxHeartbeats 4000000 in
set_option maxRecDepth 100000 in
theorem k_hearts (l : Launch) (D : va_G) (K : Nat → ClassId) (ad : Nat → Nat) (z : TS) (o : Ok z) (x1 : Int32) : cI l yX10_hearts cX10_hearts 2 .int ({ frames := 7, cells := 0, slots := 0, locals := 173 }) D K ad z [.ref (ad 0), .int x1] (fun r u => Ok u ∧ KC z u) := by
  refine t_enterI (by decide) (Nat.le_of_ble_eq_true rfl) rfl rfl ?_
  intro p e s m args below meth c A R Q H locs ls E hfr hlo RET G hl
  have E : mE p s m meth c cX10_hearts args 2 RX10 D K A := E
  have hl : lv_has ls 2 [(0, .ref (ad 0)), (1, .int x1)] := hl
  refine lv_aload_n E.1 E.2.1 dX10_hearts_0 rfl (lv_at hl 0 rfl) ?_
  refine lv_iload_n E.1 E.2.1 dX10_hearts_1 rfl (lv_at hl 1 rfl) ?_
  refine t_vi E G hl (h_walker l D K ad z o x1) 10 (rfl : ro 0 = 10) (by decide) rfl rfl 1 rfl mw_code_X10_hasWalker mw_ini_10 mw_ml_10_168 mw_inst_X10_hasWalker mw_sel_X10_hasWalker hd_X10_hasWalker ⟨Nat.le_trans (by decide) hfr, Nat.le_trans (by decide) hlo⟩ rfl rfl rfl (Nat.le_of_ble_eq_true rfl) dX10_hearts_2 (fun r2 zz1 H locs hp3 G => ?_)
  obtain ⟨hz6, b4, h5⟩ := hp3
  rw [hz6] at G
  refine lv_if_eq (tgt := 25) E.1 E.2.1 dX10_hearts_5 (by decide) (fun c7 => ?_) (fun c7 => ?_)
  · skip
    have b8 : iv 0 0 r2 := iv_eq c7 (iv_lit (lo := 0) (hi := 0) 0 (by decide) (by decide))
    refine lv_iconst (v := (-1)) E.1 E.2.1 dX10_hearts_25 (by decide) ?_
    exact RET G ⟨o, KC.rf⟩ rfl dX10_hearts_26
  · skip
    have b9 : iv 1 1 r2 := ne_lo c7 b4 (by decide) (by decide)
    have b10 : iv 0 4 x1 := h5 c7
    refine lv_aload_n E.1 E.2.1 dX10_hearts_8 rfl (lv_at hl 0 rfl) ?_
    refine lv_aload_n E.1 E.2.1 dX10_hearts_9 rfl (lv_at hl 0 rfl) ?_
    refine t_get E G 10 12 (rfl : ro 0 = 10) (C := RX10) (T := TX10) (N := 17) rfl (by decide) (by decide) (by decide) mw_fl_10_83 (v := .ref (ad 335)) (fvl_o (n := 335) rfl) dX10_hearts_10 ?_
    refine t_get E G 6 1 (rfl : ro 335 = 6) (C := RX6) (T := TX6) (N := 8) rfl (by decide) (by decide) (by decide) mw_fl_10_177 (v := .ref (ad 337)) (fvl_o (n := 2) rfl) dX10_hearts_13 ?_
    refine lv_bipush (v := 8) E.1 E.2.1 dX10_hearts_16 (by decide) ?_
    refine lv_iload_n E.1 E.2.1 dX10_hearts_18 rfl (lv_at hl 1 rfl) ?_
    refine t_vi E G hl (k_choices_337 l D K ad z o (8 : Int32) (iv_mono (iv_lit (lo := 8) (hi := 8) 8 (by decide) (by decide)) (by decide) (by decide)) x1 (iv_mono b10 (by decide) (by decide))) 10 (rfl : ro 0 = 10) (by decide) rfl rfl 3 rfl mw_code_X10_choicesThatAreSo mw_ini_10 mw_ml_10_318 mw_inst_X10_choicesThatAreSo mw_sel_X10_choicesThatAreSo hd_X10_choicesThatAreSo ⟨Nat.le_trans (by decide) hfr, Nat.le_trans (by decide) hlo⟩ rfl rfl rfl (Nat.le_of_ble_eq_true rfl) dX10_hearts_19 (fun r12 zz11 H locs hp13 G => ?_)
    obtain ⟨oo14, kk15⟩ := hp13
    have kk16 : KC z zz11 := KC.tr KC.rf kk15
    refine lv_goto (tgt := 26) E.1 E.2.1 dX10_hearts_22 (by decide) ?_
    exact RET G ⟨oo14, kk16⟩ rfl dX10_hearts_26
set_option maxHeartbeats 4000000 in
set_option maxRecDepth 100000 in
theorem k_waries (l : Launch) (D : va_G) (K : Nat → ClassId) (ad : Nat → Nat) (z : TS) (o : Ok z) (x1 : Int32) : cI l yX10_waries cX10_waries 2 .int ({ frames := 7, cells := 0, slots := 0, locals := 173 }) D K ad z [.ref (ad 0), .int x1] (fun r u => Ok u ∧ KC z u) := by
  refine t_enterI (by decide) (Nat.le_of_ble_eq_true rfl) rfl rfl ?_
  intro p e s m args below meth c A R Q H locs ls E hfr hlo RET G hl
  have E : mE p s m meth c cX10_waries args 2 RX10 D K A := E
  have hl : lv_has ls 2 [(0, .ref (ad 0)), (1, .int x1)] := hl
  refine lv_aload_n E.1 E.2.1 dX10_waries_0 rfl (lv_at hl 0 rfl) ?_
  refine lv_iload_n E.1 E.2.1 dX10_waries_1 rfl (lv_at hl 1 rfl) ?_
  refine t_vi E G hl (h_walker l D K ad z o x1) 10 (rfl : ro 0 = 10) (by decide) rfl rfl 1 rfl mw_code_X10_hasWalker mw_ini_10 mw_ml_10_168 mw_inst_X10_hasWalker mw_sel_X10_hasWalker hd_X10_hasWalker ⟨Nat.le_trans (by decide) hfr, Nat.le_trans (by decide) hlo⟩ rfl rfl rfl (Nat.le_of_ble_eq_true rfl) dX10_waries_2 (fun r2 zz1 H locs hp3 G => ?_)
  obtain ⟨hz6, b4, h5⟩ := hp3
  rw [hz6] at G
  refine lv_if_eq (tgt := 25) E.1 E.2.1 dX10_waries_5 (by decide) (fun c7 => ?_) (fun c7 => ?_)
  · skip
    have b8 : iv 0 0 r2 := iv_eq c7 (iv_lit (lo := 0) (hi := 0) 0 (by decide) (by decide))
    refine lv_iconst (v := (-1)) E.1 E.2.1 dX10_waries_25 (by decide) ?_
    exact RET G ⟨o, KC.rf⟩ rfl dX10_waries_26
  · skip
    have b9 : iv 1 1 r2 := ne_lo c7 b4 (by decide) (by decide)
    have b10 : iv 0 4 x1 := h5 c7
    refine lv_aload_n E.1 E.2.1 dX10_waries_8 rfl (lv_at hl 0 rfl) ?_
    refine lv_aload_n E.1 E.2.1 dX10_waries_9 rfl (lv_at hl 0 rfl) ?_
    refine t_get E G 10 12 (rfl : ro 0 = 10) (C := RX10) (T := TX10) (N := 17) rfl (by decide) (by decide) (by decide) mw_fl_10_83 (v := .ref (ad 335)) (fvl_o (n := 335) rfl) dX10_waries_10 ?_
    refine t_get E G 6 2 (rfl : ro 335 = 6) (C := RX6) (T := TX6) (N := 8) rfl (by decide) (by decide) (by decide) mw_fl_10_180 (v := .ref (ad 338)) (fvl_o (n := 3) rfl) dX10_waries_13 ?_
    refine lv_bipush (v := 10) E.1 E.2.1 dX10_waries_16 (by decide) ?_
    refine lv_iload_n E.1 E.2.1 dX10_waries_18 rfl (lv_at hl 1 rfl) ?_
    refine t_vi E G hl (k_choices_338 l D K ad z o (10 : Int32) (iv_mono (iv_lit (lo := 10) (hi := 10) 10 (by decide) (by decide)) (by decide) (by decide)) x1 (iv_mono b10 (by decide) (by decide))) 10 (rfl : ro 0 = 10) (by decide) rfl rfl 3 rfl mw_code_X10_choicesThatAreSo mw_ini_10 mw_ml_10_318 mw_inst_X10_choicesThatAreSo mw_sel_X10_choicesThatAreSo hd_X10_choicesThatAreSo ⟨Nat.le_trans (by decide) hfr, Nat.le_trans (by decide) hlo⟩ rfl rfl rfl (Nat.le_of_ble_eq_true rfl) dX10_waries_19 (fun r12 zz11 H locs hp13 G => ?_)
    obtain ⟨oo14, kk15⟩ := hp13
    have kk16 : KC z zz11 := KC.tr KC.rf kk15
    refine lv_goto (tgt := 26) E.1 E.2.1 dX10_waries_22 (by decide) ?_
    exact RET G ⟨oo14, kk16⟩ rfl dX10_waries_26
set_option maxHeartbeats 4000000 in
set_option maxRecDepth 100000 in
theorem k_ruled (l : Launch) (D : va_G) (K : Nat → ClassId) (ad : Nat → Nat) (z : TS) (o : Ok z) (x1 : Int32) : cI l yX10_ruled cX10_ruled 5 .int ({ frames := 6, cells := 0, slots := 0, locals := 148 }) D K ad z [.ref (ad 0), .int x1] (fun r u => Ok u ∧ KC z u) := by
  refine t_enterI (by decide) (Nat.le_of_ble_eq_true rfl) rfl rfl ?_
  intro p e s m args below meth c A R Q H locs ls E hfr hlo RET G hl
  have E : mE p s m meth c cX10_ruled args 5 RX10 D K A := E
  have hl : lv_has ls 5 [(0, .ref (ad 0)), (1, .int x1)] := hl
  refine lv_aload_n E.1 E.2.1 dX10_ruled_0 rfl (lv_at hl 0 rfl) ?_
  refine t_vi E G hl (h_town l D K ad z o) 10 (rfl : ro 0 = 10) (by decide) rfl rfl 0 rfl mw_code_X10_hasTown mw_ini_10 mw_ml_10_219 mw_inst_X10_hasTown mw_sel_X10_hasTown hd_X10_hasTown ⟨Nat.le_trans (by decide) hfr, Nat.le_trans (by decide) hlo⟩ rfl rfl rfl (Nat.le_of_ble_eq_true rfl) dX10_ruled_1 (fun r2 zz1 H locs hp3 G => ?_)
  obtain ⟨hz5, b4⟩ := hp3
  rw [hz5] at G
  refine lv_if_eq (tgt := 16) E.1 E.2.1 dX10_ruled_4 (by decide) (fun c6 => ?_) (fun c6 => ?_)
  · skip
    have b7 : iv 0 0 r2 := iv_eq c6 (iv_lit (lo := 0) (hi := 0) 0 (by decide) (by decide))
    refine lv_bipush (v := (-3)) E.1 E.2.1 dX10_ruled_16 (by decide) ?_
    exact RET G ⟨o, KC.rf⟩ rfl dX10_ruled_18
  · skip
    have b8 : iv 1 1 r2 := ne_lo c6 b4 (by decide) (by decide)
    refine lv_iload_n E.1 E.2.1 dX10_ruled_7 rfl (lv_at hl 1 rfl) ?_
    refine lv_if_lt (tgt := 16) E.1 E.2.1 dX10_ruled_8 (by decide) (fun c9 => ?_) (fun c9 => ?_)
    · skip
      have b10 : iv (-2147483648) (-1) x1 := lt_l c9 (iv_full x1) (iv_lit (lo := 0) (hi := 0) 0 (by decide) (by decide)) (by decide)
      refine lv_bipush (v := (-3)) E.1 E.2.1 dX10_ruled_16 (by decide) ?_
      exact RET G ⟨o, KC.rf⟩ rfl dX10_ruled_18
    · skip
      have b11 : iv 0 2147483647 x1 := le_r (Int32.not_lt.mp c9) (iv_lit (lo := 0) (hi := 0) 0 (by decide) (by decide)) (iv_full x1) (by decide)
      refine lv_iload_n E.1 E.2.1 dX10_ruled_11 rfl (lv_at hl 1 rfl) ?_
      refine lv_iconst (v := 1) E.1 E.2.1 dX10_ruled_12 (by decide) ?_
      refine lv_icmp_le (tgt := 19) E.1 E.2.1 dX10_ruled_13 (by decide) (fun c12 => ?_) (fun c12 => ?_)
      · skip
        have b13 : iv 0 1 x1 := le_l c12 b11 (iv_lit (lo := 1) (hi := 1) 1 (by decide) (by decide)) (by decide)
        refine lv_iconst (v := 0) E.1 E.2.1 dX10_ruled_19 (by decide) ?_
        refine lv_istore_n (lv' := [(2, .int 0), (0, .ref (ad 0)), (1, .int x1)]) E.1 E.2.1 dX10_ruled_20 rfl hl (by decide) rfl (fun ls hl => ?_)
        refine lv_bipush (v := (-2)) E.1 E.2.1 dX10_ruled_21 (by decide) ?_
        refine lv_istore_n (lv' := [(3, .int (-2)), (2, .int 0), (0, .ref (ad 0)), (1, .int x1)]) E.1 E.2.1 dX10_ruled_23 rfl hl (by decide) rfl (fun ls hl => ?_)
        refine lv_aload_n E.1 E.2.1 dX10_ruled_24 rfl (lv_at hl 2 rfl) ?_
        refine t_get E G 10 5 (rfl : ro 0 = 10) (C := RX10) (T := TX10) (N := 17) rfl (by decide) (by decide) (by decide) mw_fl_10_43 (fvl_i rfl) dX10_ruled_25 ?_
        refine lv_topi (fun v14 e15 => ?_)
        have b16 : iv 0 6 v14 := by rw [e15]; exact o.i 10 5 (rfl : ro 0 = 10)
        refine lv_iconst (v := 1) E.1 E.2.1 dX10_ruled_28 (by decide) ?_
        refine lv_isub E.1 E.2.1 dX10_ruled_29 ?_
        refine lv_topi (fun v17 e18 => ?_)
        have b19 : iv (-1) 5 v17 := by rw [e18]; exact iv_sub b16 (iv_lit (lo := 1) (hi := 1) 1 (by decide) (by decide)) (by decide) (by decide) (by decide) (by decide)
        refine lv_istore (lv' := [(4, .int v17), (3, .int (-2)), (2, .int 0), (0, .ref (ad 0)), (1, .int x1)]) E.1 E.2.1 dX10_ruled_30 hl (by decide) rfl (fun ls hl => ?_)
        have LOOP32 : ∀ n : Nat, ∀ (zz23 : TS) (y20 : Int32) (y21 : Int32) (y22 : Int32) (H : Heap) (locs : List Loc) (ls : Array Slot), mG D A s H locs (wd K ad zz23) → Ok zz23 → KC z zz23 → iv (-2) 5 y20 → y20.toInt < (-2) + (n : Int) → lv_has ls 5 [(4, .int y20), (3, .int y21), (2, .int y22), (0, .ref (ad 0)), (1, .int x1)] → W p l e R s m args below meth c H locs 0 0 Q (F0 m 32 ls []) := by
          intro n
          induction n with
          | zero =>
            intro zz23 y20 y21 y22 H locs ls G oo24 kk25 b27 m26 hl
            exact absurd m26 (by have := b27.1; have := b27.2; omega)
          | succ n ih32 =>
            intro zz23 y20 y21 y22 H locs ls G oo24 kk25 b27 m26 hl
            refine lv_iload E.1 E.2.1 dX10_ruled_32 (lv_at hl 0 rfl) ?_
            refine lv_iconst (v := (-1)) E.1 E.2.1 dX10_ruled_34 (by decide) ?_
            refine lv_icmp_lt (tgt := 73) E.1 E.2.1 dX10_ruled_35 (by decide) (fun c28 => ?_) (fun c28 => ?_)
            · skip
              have b29 : iv (-2) (-2) y20 := lt_l c28 b27 (iv_lit (lo := (-1)) (hi := (-1)) (-1) (by decide) (by decide)) (by decide)
              refine lv_iload_n E.1 E.2.1 dX10_ruled_73 rfl (lv_at hl 4 rfl) ?_
              refine lv_if_ne (tgt := 81) E.1 E.2.1 dX10_ruled_74 (by decide) (fun c30 => ?_) (fun c30 => ?_)
              · skip
                have b31 : iv 1 1 x1 := ne_lo c30 b13 (by decide) (by decide)
                refine lv_iload_n E.1 E.2.1 dX10_ruled_81 rfl (lv_at hl 1 rfl) ?_
                exact RET G ⟨oo24, kk25⟩ rfl dX10_ruled_82
              · skip
                have b32 : iv 0 0 x1 := iv_eq c30 (iv_lit (lo := 0) (hi := 0) 0 (by decide) (by decide))
                refine lv_iload_n E.1 E.2.1 dX10_ruled_77 rfl (lv_at hl 2 rfl) ?_
                refine lv_goto (tgt := 82) E.1 E.2.1 dX10_ruled_78 (by decide) ?_
                exact RET G ⟨oo24, kk25⟩ rfl dX10_ruled_82
            · skip
              have b33 : iv (-1) 5 y20 := le_r (Int32.not_lt.mp c28) (iv_lit (lo := (-1)) (hi := (-1)) (-1) (by decide) (by decide)) b27 (by decide)
              refine lv_aload_n E.1 E.2.1 dX10_ruled_38 rfl (lv_at hl 3 rfl) ?_
              refine lv_aload_n E.1 E.2.1 dX10_ruled_39 rfl (lv_at hl 3 rfl) ?_
              refine lv_iload E.1 E.2.1 dX10_ruled_40 (lv_at hl 0 rfl) ?_
              refine t_vr E G hl (k_ruleOf l D K ad zz23 oo24 y20) 10 (rfl : ro 0 = 10) (by decide) rfl rfl 1 rfl mw_code_X10_ruleOf mw_ini_10 mw_ml_10_326 mw_inst_X10_ruleOf mw_sel_X10_ruleOf hd_X10_ruleOf ⟨Nat.le_trans (by decide) hfr, Nat.le_trans (by decide) hlo⟩ rfl rfl rfl (Nat.le_of_ble_eq_true rfl) dX10_ruled_42 (fun r35 zz34 H locs hp36 G => ?_)
              obtain ⟨hz38, h37⟩ := hp36
              rw [hz38] at G
              refine lv_aload_n E.1 E.2.1 dX10_ruled_45 rfl (lv_at hl 3 rfl) ?_
              refine t_get E G 10 7 (rfl : ro 0 = 10) (C := RX10) (T := TX10) (N := 17) rfl (by decide) (by decide) (by decide) mw_fl_10_55 (v := .ref (ad 56)) (fvl_o (n := 56) rfl) dX10_ruled_46 ?_
              refine t_get E G 2 0 (rfl : ro 56 = 2) (C := RX2) (T := TX2) (N := 5) rfl (by decide) (by decide) (by decide) mw_fl_10_114 (v := .ref (ad 57)) (fvl_o (n := 1) rfl) dX10_ruled_49 ?_
              refine t_get E G 8 8 (rfl : ro 57 = 8) (C := RX8) (T := TX8) (N := 10) rfl (by decide) (by decide) (by decide) mw_fl_10_124 (v := .ref (ad 62)) (fvl_o (n := 5) rfl) dX10_ruled_52 ?_
              refine t_vi E G hl (k_notesAreSo l D K ad zz23 oo24 r35 h37 62 (by decide : at_ 6 62 = true)) 10 (rfl : ro 0 = 10) (by decide) rfl rfl 2 rfl mw_code_X10_notesAreSo mw_ini_10 mw_ml_10_322 mw_inst_X10_notesAreSo mw_sel_X10_notesAreSo hd_X10_notesAreSo ⟨Nat.le_trans (by decide) hfr, Nat.le_trans (by decide) hlo⟩ rfl rfl rfl (Nat.le_of_ble_eq_true rfl) dX10_ruled_55 (fun r40 zz39 H locs hp41 G => ?_)
              obtain ⟨oo42, kk43, b44⟩ := hp41
              have kk45 : KC z zz39 := KC.tr kk25 kk43
              refine lv_if_eq (tgt := 67) E.1 E.2.1 dX10_ruled_58 (by decide) (fun c46 => ?_) (fun c46 => ?_)
              · skip
                have b47 : iv 0 0 r40 := iv_eq c46 (iv_lit (lo := 0) (hi := 0) 0 (by decide) (by decide))
                obtain ⟨v48, e49⟩ : ∃ w : Int32, w = y20 + (-1 : Int32) := ⟨_, rfl⟩
                refine lv_iinc (v := v48) (lv' := [(4, .int v48), (3, .int y21), (2, .int y22), (0, .ref (ad 0)), (1, .int x1)]) E.1 E.2.1 dX10_ruled_67 hl (k := 0) rfl (by rw [e49]; rfl) (by decide) rfl (fun ls hl => ?_)
                have b50 : iv (-2) 4 v48 := by rw [e49]; exact iv_add b33 (iv_lit (lo := (-1)) (hi := (-1)) (-1) (by decide) (by decide)) (by decide) (by decide) (by decide) (by decide)
                have t51 : v48.toInt = y20.toInt + (-1) := by rw [e49]; exact ti_addc (-1) (by decide) b33 (by decide) (by decide)
                refine lv_goto (tgt := 32) E.1 E.2.1 dX10_ruled_70 (by decide) ?_
                exact ih32 zz39 v48 y21 y22 H locs ls G oo42 kk45 (iv_mono b50 (by decide) (by decide)) (by have := t51; have := m26; omega) (lv_sub hl [0, 1, 2, 3, 4] rfl)
              · skip
                have b52 : iv 1 1 r40 := ne_lo c46 b44 (by decide) (by decide)
                obtain ⟨v53, e54⟩ : ∃ w : Int32, w = y22 + (1 : Int32) := ⟨_, rfl⟩
                refine lv_iinc (v := v53) (lv' := [(2, .int v53), (4, .int y20), (3, .int y21), (0, .ref (ad 0)), (1, .int x1)]) E.1 E.2.1 dX10_ruled_61 hl (k := 2) rfl (by rw [e54]; rfl) (by decide) rfl (fun ls hl => ?_)
                refine lv_iload E.1 E.2.1 dX10_ruled_64 (lv_at hl 1 rfl) ?_
                refine lv_istore_n (lv' := [(3, .int y20), (2, .int v53), (4, .int y20), (0, .ref (ad 0)), (1, .int x1)]) E.1 E.2.1 dX10_ruled_66 rfl hl (by decide) rfl (fun ls hl => ?_)
                obtain ⟨v55, e56⟩ : ∃ w : Int32, w = y20 + (-1 : Int32) := ⟨_, rfl⟩
                refine lv_iinc (v := v55) (lv' := [(4, .int v55), (3, .int y20), (2, .int v53), (0, .ref (ad 0)), (1, .int x1)]) E.1 E.2.1 dX10_ruled_67 hl (k := 2) rfl (by rw [e56]; rfl) (by decide) rfl (fun ls hl => ?_)
                have b57 : iv (-2) 4 v55 := by rw [e56]; exact iv_add b33 (iv_lit (lo := (-1)) (hi := (-1)) (-1) (by decide) (by decide)) (by decide) (by decide) (by decide) (by decide)
                have t58 : v55.toInt = y20.toInt + (-1) := by rw [e56]; exact ti_addc (-1) (by decide) b33 (by decide) (by decide)
                refine lv_goto (tgt := 32) E.1 E.2.1 dX10_ruled_70 (by decide) ?_
                exact ih32 zz39 v55 y20 v53 H locs ls G oo42 kk45 (iv_mono b57 (by decide) (by decide)) (by have := t58; have := m26; omega) (lv_sub hl [0, 1, 2, 3, 4] rfl)
        exact LOOP32 8 z v17 (-2) 0 H locs ls G o KC.rf (iv_mono b19 (by decide) (by decide)) (by have := b19.2; omega) (lv_sub hl [0, 1, 2, 3, 4] rfl)
      · skip
        have b59 : iv 2 2147483647 x1 := lt_r (Int32.not_le.mp c12) (iv_lit (lo := 1) (hi := 1) 1 (by decide) (by decide)) b11 (by decide)
        refine lv_bipush (v := (-3)) E.1 E.2.1 dX10_ruled_16 (by decide) ?_
        exact RET G ⟨o, KC.rf⟩ rfl dX10_ruled_18
set_option maxHeartbeats 4000000 in
set_option maxRecDepth 100000 in
theorem k_look (l : Launch) (D : va_G) (K : Nat → ClassId) (ad : Nat → Nat) (z : TS) (o : Ok z) (x1 : Int32) (x2 : Int32) : cI l yX10_look cX10_look 7 .int ({ frames := 7, cells := 0, slots := 0, locals := 172 }) D K ad z [.ref (ad 0), .int x1, .int x2] (fun r u => Ok u ∧ KC z u) := by
  refine t_enterI (by decide) (Nat.le_of_ble_eq_true rfl) rfl rfl ?_
  intro p e s m args below meth c A R Q H locs ls E hfr hlo RET G hl
  have E : mE p s m meth c cX10_look args 7 RX10 D K A := E
  have hl : lv_has ls 7 [(0, .ref (ad 0)), (1, .int x1), (2, .int x2)] := hl
  refine lv_aload_n E.1 E.2.1 dX10_look_0 rfl (lv_at hl 0 rfl) ?_
  refine t_vi E G hl (h_town l D K ad z o) 10 (rfl : ro 0 = 10) (by decide) rfl rfl 0 rfl mw_code_X10_hasTown mw_ini_10 mw_ml_10_219 mw_inst_X10_hasTown mw_sel_X10_hasTown hd_X10_hasTown ⟨Nat.le_trans (by decide) hfr, Nat.le_trans (by decide) hlo⟩ rfl rfl rfl (Nat.le_of_ble_eq_true rfl) dX10_look_1 (fun r2 zz1 H locs hp3 G => ?_)
  obtain ⟨hz5, b4⟩ := hp3
  rw [hz5] at G
  refine lv_if_eq (tgt := 26) E.1 E.2.1 dX10_look_4 (by decide) (fun c6 => ?_) (fun c6 => ?_)
  · skip
    have b7 : iv 0 0 r2 := iv_eq c6 (iv_lit (lo := 0) (hi := 0) 0 (by decide) (by decide))
    refine lv_iconst (v := (-1)) E.1 E.2.1 dX10_look_26 (by decide) ?_
    exact RET G ⟨o, KC.rf⟩ rfl dX10_look_27
  · skip
    have b8 : iv 1 1 r2 := ne_lo c6 b4 (by decide) (by decide)
    refine lv_iload_n E.1 E.2.1 dX10_look_7 rfl (lv_at hl 1 rfl) ?_
    refine lv_if_lt (tgt := 26) E.1 E.2.1 dX10_look_8 (by decide) (fun c9 => ?_) (fun c9 => ?_)
    · skip
      have b10 : iv (-2147483648) (-1) x1 := lt_l c9 (iv_full x1) (iv_lit (lo := 0) (hi := 0) 0 (by decide) (by decide)) (by decide)
      refine lv_iconst (v := (-1)) E.1 E.2.1 dX10_look_26 (by decide) ?_
      exact RET G ⟨o, KC.rf⟩ rfl dX10_look_27
    · skip
      have b11 : iv 0 2147483647 x1 := le_r (Int32.not_lt.mp c9) (iv_lit (lo := 0) (hi := 0) 0 (by decide) (by decide)) (iv_full x1) (by decide)
      refine lv_iload_n E.1 E.2.1 dX10_look_11 rfl (lv_at hl 1 rfl) ?_
      refine lv_bipush (v := 60) E.1 E.2.1 dX10_look_12 (by decide) ?_
      refine lv_icmp_gt (tgt := 26) E.1 E.2.1 dX10_look_14 (by decide) (fun c12 => ?_) (fun c12 => ?_)
      · skip
        have b13 : iv 61 2147483647 x1 := lt_r c12 (iv_lit (lo := 60) (hi := 60) 60 (by decide) (by decide)) b11 (by decide)
        refine lv_iconst (v := (-1)) E.1 E.2.1 dX10_look_26 (by decide) ?_
        exact RET G ⟨o, KC.rf⟩ rfl dX10_look_27
      · skip
        have b14 : iv 0 60 x1 := le_l (Int32.not_lt.mp c12) b11 (iv_lit (lo := 60) (hi := 60) 60 (by decide) (by decide)) (by decide)
        refine lv_iload_n E.1 E.2.1 dX10_look_17 rfl (lv_at hl 2 rfl) ?_
        refine lv_if_lt (tgt := 26) E.1 E.2.1 dX10_look_18 (by decide) (fun c15 => ?_) (fun c15 => ?_)
        · skip
          have b16 : iv (-2147483648) (-1) x2 := lt_l c15 (iv_full x2) (iv_lit (lo := 0) (hi := 0) 0 (by decide) (by decide)) (by decide)
          refine lv_iconst (v := (-1)) E.1 E.2.1 dX10_look_26 (by decide) ?_
          exact RET G ⟨o, KC.rf⟩ rfl dX10_look_27
        · skip
          have b17 : iv 0 2147483647 x2 := le_r (Int32.not_lt.mp c15) (iv_lit (lo := 0) (hi := 0) 0 (by decide) (by decide)) (iv_full x2) (by decide)
          refine lv_iload_n E.1 E.2.1 dX10_look_21 rfl (lv_at hl 2 rfl) ?_
          refine lv_iconst (v := 1) E.1 E.2.1 dX10_look_22 (by decide) ?_
          refine lv_icmp_le (tgt := 28) E.1 E.2.1 dX10_look_23 (by decide) (fun c18 => ?_) (fun c18 => ?_)
          · skip
            have b19 : iv 0 1 x2 := le_l c18 b17 (iv_lit (lo := 1) (hi := 1) 1 (by decide) (by decide)) (by decide)
            refine lv_aload_n E.1 E.2.1 dX10_look_28 rfl (lv_at hl 0 rfl) ?_
            refine lv_iload_n E.1 E.2.1 dX10_look_29 rfl (lv_at hl 1 rfl) ?_
            refine t_vi E G hl (k_tallyRules l D K ad z o x1 (iv_mono b14 (by decide) (by decide))) 10 (rfl : ro 0 = 10) (by decide) rfl rfl 1 rfl mw_code_X10_tallyRules mw_ini_10 mw_ml_10_330 mw_inst_X10_tallyRules mw_sel_X10_tallyRules hd_X10_tallyRules ⟨Nat.le_trans (by decide) hfr, Nat.le_trans (by decide) hlo⟩ rfl rfl rfl (Nat.le_of_ble_eq_true rfl) dX10_look_30 (fun r21 zz20 H locs hp22 G => ?_)
            obtain ⟨oo23, kk24⟩ := hp22
            have kk25 : KC z zz20 := KC.tr KC.rf kk24
            refine lv_if_ne (tgt := 39) E.1 E.2.1 dX10_look_33 (by decide) (fun c26 => ?_) (fun c26 => ?_)
            · skip
              refine lv_bipush (v := (-2)) E.1 E.2.1 dX10_look_39 (by decide) ?_
              refine lv_istore_n (lv' := [(3, .int (-2)), (0, .ref (ad 0)), (1, .int x1), (2, .int x2)]) E.1 E.2.1 dX10_look_41 rfl hl (by decide) rfl (fun ls hl => ?_)
              refine lv_bipush (v := (-2)) E.1 E.2.1 dX10_look_42 (by decide) ?_
              refine lv_istore (lv' := [(4, .int (-2)), (3, .int (-2)), (0, .ref (ad 0)), (1, .int x1), (2, .int x2)]) E.1 E.2.1 dX10_look_44 hl (by decide) rfl (fun ls hl => ?_)
              refine lv_iconst (v := 0) E.1 E.2.1 dX10_look_46 (by decide) ?_
              refine lv_istore (lv' := [(5, .int 0), (4, .int (-2)), (3, .int (-2)), (0, .ref (ad 0)), (1, .int x1), (2, .int x2)]) E.1 E.2.1 dX10_look_47 hl (by decide) rfl (fun ls hl => ?_)
              have LOOP49 : ∀ n : Nat, ∀ (y27 : Int32) (y28 : Int32) (y29 : Int32) (H : Heap) (locs : List Loc) (ls : Array Slot), mG D A s H locs (wd K ad zz20) → iv 0 5 y27 → 5 < y27.toInt + (n : Int) → lv_has ls 7 [(5, .int y27), (4, .int y28), (3, .int y29), (0, .ref (ad 0)), (1, .int x1), (2, .int x2)] → W p l e R s m args below meth c H locs 0 0 Q (F0 m 49 ls []) := by
                intro n
                induction n with
                | zero =>
                  intro y27 y28 y29 H locs ls G b34 m33 hl
                  exact absurd m33 (by have := b34.1; have := b34.2; omega)
                | succ n ih49 =>
                  intro y27 y28 y29 H locs ls G b34 m33 hl
                  refine lv_iload E.1 E.2.1 dX10_look_49 (lv_at hl 0 rfl) ?_
                  refine lv_aload_n E.1 E.2.1 dX10_look_51 rfl (lv_at hl 3 rfl) ?_
                  refine t_get E G 10 7 (rfl : ro 0 = 10) (C := RX10) (T := TX10) (N := 17) rfl (by decide) (by decide) (by decide) mw_fl_10_55 (v := .ref (ad 56)) (fvl_o (n := 56) rfl) dX10_look_52 ?_
                  refine t_get E G 2 0 (rfl : ro 56 = 2) (C := RX2) (T := TX2) (N := 5) rfl (by decide) (by decide) (by decide) mw_fl_10_114 (v := .ref (ad 57)) (fvl_o (n := 1) rfl) dX10_look_55 ?_
                  refine t_get E G 8 3 (rfl : ro 57 = 8) (C := RX8) (T := TX8) (N := 10) rfl (by decide) (by decide) (by decide) mw_fl_10_140 (fvl_i rfl) dX10_look_58 ?_
                  refine lv_topi (fun v35 e36 => ?_)
                  have b37 : iv 0 5 v35 := by rw [e36]; exact oo23.i 8 3 (rfl : ro 57 = 8)
                  refine lv_icmp_ge (tgt := 96) E.1 E.2.1 dX10_look_61 (by decide) (fun c38 => ?_) (fun c38 => ?_)
                  · skip
                    refine lv_iload_n E.1 E.2.1 dX10_look_96 rfl (lv_at hl 5 rfl) ?_
                    refine lv_if_ne (tgt := 104) E.1 E.2.1 dX10_look_97 (by decide) (fun c39 => ?_) (fun c39 => ?_)
                    · skip
                      have b40 : iv 1 1 x2 := ne_lo c39 b19 (by decide) (by decide)
                      refine lv_iload E.1 E.2.1 dX10_look_104 (lv_at hl 1 rfl) ?_
                      exact RET G ⟨oo23, kk25⟩ rfl dX10_look_106
                    · skip
                      have b41 : iv 0 0 x2 := iv_eq c39 (iv_lit (lo := 0) (hi := 0) 0 (by decide) (by decide))
                      refine lv_iload_n E.1 E.2.1 dX10_look_100 rfl (lv_at hl 2 rfl) ?_
                      refine lv_goto (tgt := 106) E.1 E.2.1 dX10_look_101 (by decide) ?_
                      exact RET G ⟨oo23, kk25⟩ rfl dX10_look_106
                  · skip
                    have b42 : iv 0 4 y27 := lt_l (Int32.not_le.mp c38) b34 b37 (by decide)
                    have b43 : iv 1 5 v35 := lt_r (Int32.not_le.mp c38) b34 b37 (by decide)
                    refine lv_aload_n E.1 E.2.1 dX10_look_64 rfl (lv_at hl 3 rfl) ?_
                    refine lv_iload E.1 E.2.1 dX10_look_65 (lv_at hl 0 rfl) ?_
                    refine t_vi E G hl (k_mostAlike l D K ad zz20 oo23 y27 (iv_mono b42 (by decide) (by decide))) 10 (rfl : ro 0 = 10) (by decide) rfl rfl 1 rfl mw_code_X10_mostAlike mw_ini_10 mw_ml_10_333 mw_inst_X10_mostAlike mw_sel_X10_mostAlike hd_X10_mostAlike ⟨Nat.le_trans (by decide) hfr, Nat.le_trans (by decide) hlo⟩ rfl rfl rfl (Nat.le_of_ble_eq_true rfl) dX10_look_67 (fun r45 zz44 H locs hp46 G => ?_)
                    have hz47 := hp46
                    rw [hz47] at G
                    refine lv_istore (lv' := [(6, .int r45), (5, .int y27), (4, .int y28), (3, .int y29), (0, .ref (ad 0)), (1, .int x1), (2, .int x2)]) E.1 E.2.1 dX10_look_70 hl (by decide) rfl (fun ls hl => ?_)
                    refine lv_iload_n E.1 E.2.1 dX10_look_72 rfl (lv_at hl 3 rfl) ?_
                    refine lv_if_lt (tgt := 83) E.1 E.2.1 dX10_look_73 (by decide) (fun c48 => ?_) (fun c48 => ?_)
                    · skip
                      have b49 : iv (-2147483648) (-1) y29 := lt_l c48 (iv_full y29) (iv_lit (lo := 0) (hi := 0) 0 (by decide) (by decide)) (by decide)
                      refine lv_iload E.1 E.2.1 dX10_look_83 (lv_at hl 1 rfl) ?_
                      refine lv_istore_n (lv' := [(3, .int y27), (6, .int r45), (5, .int y27), (4, .int y28), (0, .ref (ad 0)), (1, .int x1), (2, .int x2)]) E.1 E.2.1 dX10_look_85 rfl hl (by decide) rfl (fun ls hl => ?_)
                      refine lv_iload E.1 E.2.1 dX10_look_86 (lv_at hl 1 rfl) ?_
                      refine lv_istore (lv' := [(4, .int r45), (3, .int y27), (6, .int r45), (5, .int y27), (0, .ref (ad 0)), (1, .int x1), (2, .int x2)]) E.1 E.2.1 dX10_look_88 hl (by decide) rfl (fun ls hl => ?_)
                      obtain ⟨v50, e51⟩ : ∃ w : Int32, w = y27 + (1 : Int32) := ⟨_, rfl⟩
                      refine lv_iinc (v := v50) (lv' := [(5, .int v50), (4, .int r45), (3, .int y27), (6, .int r45), (0, .ref (ad 0)), (1, .int x1), (2, .int x2)]) E.1 E.2.1 dX10_look_90 hl (k := 3) rfl (by rw [e51]; rfl) (by decide) rfl (fun ls hl => ?_)
                      have b52 : iv 1 5 v50 := by rw [e51]; exact iv_add b42 (iv_lit (lo := 1) (hi := 1) 1 (by decide) (by decide)) (by decide) (by decide) (by decide) (by decide)
                      have t53 : v50.toInt = y27.toInt + 1 := by rw [e51]; exact ti_addc 1 (by decide) b42 (by decide) (by decide)
                      refine lv_goto (tgt := 49) E.1 E.2.1 dX10_look_93 (by decide) ?_
                      exact ih49 v50 r45 y27 H locs ls G (iv_mono b52 (by decide) (by decide)) (by have := t53; have := m33; omega) (lv_sub hl [0, 1, 2, 4, 5, 6] rfl)
                    · skip
                      have b54 : iv 0 2147483647 y29 := le_r (Int32.not_lt.mp c48) (iv_lit (lo := 0) (hi := 0) 0 (by decide) (by decide)) (iv_full y29) (by decide)
                      refine lv_iload E.1 E.2.1 dX10_look_76 (lv_at hl 0 rfl) ?_
                      refine lv_iload E.1 E.2.1 dX10_look_78 (lv_at hl 2 rfl) ?_
                      refine lv_icmp_ge (tgt := 90) E.1 E.2.1 dX10_look_80 (by decide) (fun c55 => ?_) (fun c55 => ?_)
                      · skip
                        obtain ⟨v56, e57⟩ : ∃ w : Int32, w = y27 + (1 : Int32) := ⟨_, rfl⟩
                        refine lv_iinc (v := v56) (lv' := [(5, .int v56), (6, .int r45), (4, .int y28), (3, .int y29), (0, .ref (ad 0)), (1, .int x1), (2, .int x2)]) E.1 E.2.1 dX10_look_90 hl (k := 1) rfl (by rw [e57]; rfl) (by decide) rfl (fun ls hl => ?_)
                        have b58 : iv 1 5 v56 := by rw [e57]; exact iv_add b42 (iv_lit (lo := 1) (hi := 1) 1 (by decide) (by decide)) (by decide) (by decide) (by decide) (by decide)
                        have t59 : v56.toInt = y27.toInt + 1 := by rw [e57]; exact ti_addc 1 (by decide) b42 (by decide) (by decide)
                        refine lv_goto (tgt := 49) E.1 E.2.1 dX10_look_93 (by decide) ?_
                        exact ih49 v56 y28 y29 H locs ls G (iv_mono b58 (by decide) (by decide)) (by have := t59; have := m33; omega) (lv_sub hl [0, 2, 3, 4, 5, 6] rfl)
                      · skip
                        have b60 : iv (-2147483648) 2147483646 r45 := lt_l (Int32.not_le.mp c55) (iv_full r45) (iv_full y28) (by decide)
                        have b61 : iv (-2147483647) 2147483647 y28 := lt_r (Int32.not_le.mp c55) (iv_full r45) (iv_full y28) (by decide)
                        refine lv_iload E.1 E.2.1 dX10_look_83 (lv_at hl 1 rfl) ?_
                        refine lv_istore_n (lv' := [(3, .int y27), (6, .int r45), (5, .int y27), (4, .int y28), (0, .ref (ad 0)), (1, .int x1), (2, .int x2)]) E.1 E.2.1 dX10_look_85 rfl hl (by decide) rfl (fun ls hl => ?_)
                        refine lv_iload E.1 E.2.1 dX10_look_86 (lv_at hl 1 rfl) ?_
                        refine lv_istore (lv' := [(4, .int r45), (3, .int y27), (6, .int r45), (5, .int y27), (0, .ref (ad 0)), (1, .int x1), (2, .int x2)]) E.1 E.2.1 dX10_look_88 hl (by decide) rfl (fun ls hl => ?_)
                        obtain ⟨v62, e63⟩ : ∃ w : Int32, w = y27 + (1 : Int32) := ⟨_, rfl⟩
                        refine lv_iinc (v := v62) (lv' := [(5, .int v62), (4, .int r45), (3, .int y27), (6, .int r45), (0, .ref (ad 0)), (1, .int x1), (2, .int x2)]) E.1 E.2.1 dX10_look_90 hl (k := 3) rfl (by rw [e63]; rfl) (by decide) rfl (fun ls hl => ?_)
                        have b64 : iv 1 5 v62 := by rw [e63]; exact iv_add b42 (iv_lit (lo := 1) (hi := 1) 1 (by decide) (by decide)) (by decide) (by decide) (by decide) (by decide)
                        have t65 : v62.toInt = y27.toInt + 1 := by rw [e63]; exact ti_addc 1 (by decide) b42 (by decide) (by decide)
                        refine lv_goto (tgt := 49) E.1 E.2.1 dX10_look_93 (by decide) ?_
                        exact ih49 v62 r45 y27 H locs ls G (iv_mono b64 (by decide) (by decide)) (by have := t65; have := m33; omega) (lv_sub hl [0, 1, 2, 4, 5, 6] rfl)
              exact LOOP49 6 0 (-2) (-2) H locs ls G (iv_mono (iv_lit (lo := 0) (hi := 0) 0 (by decide) (by decide)) (by decide) (by decide)) (by have := (iv_lit (lo := 0) (hi := 0) 0 (by decide) (by decide)).1; omega) (lv_sub hl [0, 1, 2, 3, 4, 5] rfl)
            · skip
              have b66 : iv 0 0 r21 := iv_eq c26 (iv_lit (lo := 0) (hi := 0) 0 (by decide) (by decide))
              refine lv_bipush (v := (-2)) E.1 E.2.1 dX10_look_36 (by decide) ?_
              exact RET G ⟨oo23, kk25⟩ rfl dX10_look_38
          · skip
            have b67 : iv 2 2147483647 x2 := lt_r (Int32.not_le.mp c18) (iv_lit (lo := 1) (hi := 1) 1 (by decide) (by decide)) b17 (by decide)
            refine lv_iconst (v := (-1)) E.1 E.2.1 dX10_look_26 (by decide) ?_
            exact RET G ⟨o, KC.rf⟩ rfl dX10_look_27
