theorem mw_cL_11_427 : (Cond.constantLong RX11 427 (9999) : Cond) ∈ cw := cw_of (List.mem_append_right _ (List.mem_append_right _ (List.mem_append_right _ (List.mem_append_right _ (List.mem_append_right _ (List.mem_append_right _ (List.mem_append_right _ (List.mem_append_left _ (List.mem_of_getElem? (i := 179) (by decide +kernel)))))))))) (by decide +kernel)
theorem mw_cL_11_429 : (Cond.constantLong RX11 429 (60) : Cond) ∈ cw := cw_of (List.mem_append_right _ (List.mem_append_right _ (List.mem_append_right _ (List.mem_append_right _ (List.mem_append_right _ (List.mem_append_right _ (List.mem_append_right _ (List.mem_append_left _ (List.mem_of_getElem? (i := 184) (by decide +kernel)))))))))) (by decide +kernel)
theorem mw_code_X11_charges : (Cond.code yX11_charges cX11_charges 3 (some .int) : Cond) ∈ cw := cw_of (List.mem_append_right _ (List.mem_append_right _ (List.mem_append_right _ (List.mem_append_right _ (List.mem_append_right _ (List.mem_append_right _ (List.mem_append_right _ (List.mem_append_left _ (List.mem_of_getElem? (i := 134) rfl))))))))) (by decide +kernel)
theorem mw_code_X11_homeOnes : (Cond.code yX11_homeOnes cX11_homeOnes 3 (some .int) : Cond) ∈ cw := cw_of (List.mem_append_right _ (List.mem_append_right _ (List.mem_append_right _ (List.mem_append_right _ (List.mem_append_right _ (List.mem_append_right _ (List.mem_append_right _ (List.mem_append_right _ (List.mem_of_getElem? (i := 5) rfl))))))))) (by decide +kernel)
theorem mw_code_X11_laidOnes : (Cond.code yX11_laidOnes cX11_laidOnes 3 (some .int) : Cond) ∈ cw := cw_of (List.mem_append_right _ (List.mem_append_right _ (List.mem_append_right _ (List.mem_append_right _ (List.mem_append_right _ (List.mem_append_right _ (List.mem_append_right _ (List.mem_append_left _ (List.mem_of_getElem? (i := 83) rfl))))))))) (by decide +kernel)
theorem mw_code_X11_waysTold : (Cond.code yX11_waysTold cX11_waysTold 1 (some .int) : Cond) ∈ cw := cw_of (List.mem_append_right _ (List.mem_append_right _ (List.mem_append_right _ (List.mem_append_right _ (List.mem_append_right _ (List.mem_append_right _ (List.mem_append_right _ (List.mem_append_left _ (List.mem_of_getElem? (i := 105) rfl))))))))) (by decide +kernel)
theorem mw_fl_11_446 : (Cond.fieldLink RX11 446 "LureTownModel" "x" "I" : Cond) ∈ cw := cw_of (List.mem_append_right _ (List.mem_append_right _ (List.mem_append_right _ (List.mem_append_right _ (List.mem_append_right _ (List.mem_append_left _ (List.mem_of_getElem? (i := 129) (by decide +kernel)))))))) (by decide +kernel)
theorem mw_fl_11_58 : (Cond.fieldLink RX11 58 "LureTownModel" "hasBy" "[I" : Cond) ∈ cw := cw_of (List.mem_append_right _ (List.mem_append_right _ (List.mem_append_right _ (List.mem_append_right _ (List.mem_append_right _ (List.mem_append_left _ (List.mem_of_getElem? (i := 135) (by decide +kernel)))))))) (by decide +kernel)
theorem mw_fl_11_61 : (Cond.fieldLink RX11 61 "LureTownModel" "standsThen" "[I" : Cond) ∈ cw := cw_of (List.mem_append_right _ (List.mem_append_right _ (List.mem_append_right _ (List.mem_append_right _ (List.mem_append_right _ (List.mem_append_left _ (List.mem_of_getElem? (i := 136) (by decide +kernel)))))))) (by decide +kernel)
theorem mw_fl_11_64 : (Cond.fieldLink RX11 64 "LureTownModel" "isFit" "[Z" : Cond) ∈ cw := cw_of (List.mem_append_right _ (List.mem_append_right _ (List.mem_append_right _ (List.mem_append_right _ (List.mem_append_right _ (List.mem_append_left _ (List.mem_of_getElem? (i := 137) (by decide +kernel)))))))) (by decide +kernel)
theorem mw_fl_11_68 : (Cond.fieldLink RX11 68 "LureTownModel" "cornerThen" "[I" : Cond) ∈ cw := cw_of (List.mem_append_right _ (List.mem_append_right _ (List.mem_append_right _ (List.mem_append_right _ (List.mem_append_right _ (List.mem_append_left _ (List.mem_of_getElem? (i := 138) (by decide +kernel)))))))) (by decide +kernel)
theorem mw_fl_11_83 : (Cond.fieldLink RX11 83 "LureTownModel" "taped" "I" : Cond) ∈ cw := cw_of (List.mem_append_right _ (List.mem_append_right _ (List.mem_append_right _ (List.mem_append_right _ (List.mem_append_right _ (List.mem_append_left _ (List.mem_of_getElem? (i := 108) (by decide +kernel)))))))) (by decide +kernel)
theorem mw_inst_X11_charges : (Cond.instanceMethod yX11_charges : Cond) ∈ cw := cw_of (List.mem_append_right _ (List.mem_append_right _ (List.mem_append_right _ (List.mem_append_right _ (List.mem_append_right _ (List.mem_append_right _ (List.mem_append_right _ (List.mem_append_left _ (List.mem_of_getElem? (i := 133) (by decide +kernel)))))))))) (by decide +kernel)
theorem mw_inst_X11_homeOnes : (Cond.instanceMethod yX11_homeOnes : Cond) ∈ cw := cw_of (List.mem_append_right _ (List.mem_append_right _ (List.mem_append_right _ (List.mem_append_right _ (List.mem_append_right _ (List.mem_append_right _ (List.mem_append_right _ (List.mem_append_right _ (List.mem_of_getElem? (i := 4) (by decide +kernel)))))))))) (by decide +kernel)
theorem mw_inst_X11_laidOnes : (Cond.instanceMethod yX11_laidOnes : Cond) ∈ cw := cw_of (List.mem_append_right _ (List.mem_append_right _ (List.mem_append_right _ (List.mem_append_right _ (List.mem_append_right _ (List.mem_append_right _ (List.mem_append_right _ (List.mem_append_left _ (List.mem_of_getElem? (i := 82) (by decide +kernel)))))))))) (by decide +kernel)
theorem mw_ml_11_379 : (Cond.methodLink RX11 379 yX11_laidOnes : Cond) ∈ cw := cw_of (List.mem_append_right _ (List.mem_append_right _ (List.mem_append_right _ (List.mem_append_right _ (List.mem_append_right _ (List.mem_append_right _ (List.mem_append_right _ (List.mem_append_left _ (List.mem_of_getElem? (i := 80) (by decide +kernel)))))))))) (by decide +kernel)
theorem mw_ml_11_388 : (Cond.methodLink RX11 388 yX11_waysTold : Cond) ∈ cw := cw_of (List.mem_append_right _ (List.mem_append_right _ (List.mem_append_right _ (List.mem_append_right _ (List.mem_append_right _ (List.mem_append_right _ (List.mem_append_right _ (List.mem_append_left _ (List.mem_of_getElem? (i := 103) (by decide +kernel)))))))))) (by decide +kernel)
theorem mw_ml_11_394 : (Cond.methodLink RX11 394 yX11_charges : Cond) ∈ cw := cw_of (List.mem_append_right _ (List.mem_append_right _ (List.mem_append_right _ (List.mem_append_right _ (List.mem_append_right _ (List.mem_append_right _ (List.mem_append_right _ (List.mem_append_left _ (List.mem_of_getElem? (i := 131) (by decide +kernel)))))))))) (by decide +kernel)
theorem mw_ml_11_466 : (Cond.methodLink RX11 466 yX11_homeOnes : Cond) ∈ cw := cw_of (List.mem_append_right _ (List.mem_append_right _ (List.mem_append_right _ (List.mem_append_right _ (List.mem_append_right _ (List.mem_append_right _ (List.mem_append_right _ (List.mem_append_right _ (List.mem_of_getElem? (i := 2) (by decide +kernel)))))))))) (by decide +kernel)
theorem mw_sel_X11_charges : (Cond.selects RX11 yX11_charges yX11_charges : Cond) ∈ cw := cw_of (List.mem_append_left _ (List.mem_of_getElem? (i := 113) (by decide +kernel))) (by decide +kernel)
theorem mw_sel_X11_homeOnes : (Cond.selects RX11 yX11_homeOnes yX11_homeOnes : Cond) ∈ cw := cw_of (List.mem_append_left _ (List.mem_of_getElem? (i := 125) (by decide +kernel))) (by decide +kernel)
theorem mw_sel_X11_laidOnes : (Cond.selects RX11 yX11_laidOnes yX11_laidOnes : Cond) ∈ cw := cw_of (List.mem_append_left _ (List.mem_of_getElem? (i := 108) (by decide +kernel))) (by decide +kernel)
theorem mw_stat_X11_waysTold : (Cond.static yX11_waysTold : Cond) ∈ cw := cw_of (List.mem_append_right _ (List.mem_append_right _ (List.mem_append_right _ (List.mem_append_right _ (List.mem_append_right _ (List.mem_append_right _ (List.mem_append_right _ (List.mem_append_left _ (List.mem_of_getElem? (i := 104) (by decide +kernel)))))))))) (by decide +kernel)
theorem dX11_alikeAt_0 : decode cX11_alikeAt 0 = .ok (.iconst 0, 1) := by decide +kernel
theorem dX11_alikeAt_1 : decode cX11_alikeAt 1 = .ok (.istore_n 2, 1) := by decide +kernel
theorem dX11_alikeAt_2 : decode cX11_alikeAt 2 = .ok (.iconst 0, 1) := by decide +kernel
theorem dX11_alikeAt_3 : decode cX11_alikeAt 3 = .ok (.istore_n 3, 1) := by decide +kernel
theorem dX11_alikeAt_4 : decode cX11_alikeAt 4 = .ok (.iload_n 3, 1) := by decide +kernel
theorem dX11_alikeAt_5 : decode cX11_alikeAt 5 = .ok (.aload_n 0, 1) := by decide +kernel
theorem dX11_alikeAt_6 : decode cX11_alikeAt 6 = .ok (.getfield 258, 3) := by decide +kernel
theorem dX11_alikeAt_9 : decode cX11_alikeAt 9 = .ok (.if_icmp .gt 96, 3) := by decide +kernel
theorem dX11_alikeAt_12 : decode cX11_alikeAt 12 = .ok (.iconst 0, 1) := by decide +kernel
theorem dX11_alikeAt_13 : decode cX11_alikeAt 13 = .ok (.istore 4, 2) := by decide +kernel
theorem dX11_alikeAt_15 : decode cX11_alikeAt 15 = .ok (.iconst 0, 1) := by decide +kernel
theorem dX11_alikeAt_16 : decode cX11_alikeAt 16 = .ok (.istore 5, 2) := by decide +kernel
theorem dX11_alikeAt_18 : decode cX11_alikeAt 18 = .ok (.iload 5, 2) := by decide +kernel
theorem dX11_alikeAt_20 : decode cX11_alikeAt 20 = .ok (.aload_n 0, 1) := by decide +kernel
theorem dX11_alikeAt_21 : decode cX11_alikeAt 21 = .ok (.getfield 258, 3) := by decide +kernel
theorem dX11_alikeAt_24 : decode cX11_alikeAt 24 = .ok (.if_icmp .gt 62, 3) := by decide +kernel
theorem dX11_alikeAt_27 : decode cX11_alikeAt 27 = .ok (.aload_n 0, 1) := by decide +kernel
theorem dX11_alikeAt_28 : decode cX11_alikeAt 28 = .ok (.getfield 64, 3) := by decide +kernel
theorem dX11_alikeAt_31 : decode cX11_alikeAt 31 = .ok (.iload_n 3, 1) := by decide +kernel
theorem dX11_alikeAt_32 : decode cX11_alikeAt 32 = .ok (.baload, 1) := by decide +kernel
theorem dX11_alikeAt_33 : decode cX11_alikeAt 33 = .ok (.ifCond .eq 53, 3) := by decide +kernel
theorem dX11_alikeAt_36 : decode cX11_alikeAt 36 = .ok (.iload 4, 2) := by decide +kernel
theorem dX11_alikeAt_38 : decode cX11_alikeAt 38 = .ok (.aload_n 0, 1) := by decide +kernel
theorem dX11_alikeAt_39 : decode cX11_alikeAt 39 = .ok (.getfield 64, 3) := by decide +kernel
theorem dX11_alikeAt_42 : decode cX11_alikeAt 42 = .ok (.iload 5, 2) := by decide +kernel
theorem dX11_alikeAt_44 : decode cX11_alikeAt 44 = .ok (.baload, 1) := by decide +kernel
theorem dX11_alikeAt_45 : decode cX11_alikeAt 45 = .ok (.ifCond .eq 31, 3) := by decide +kernel
theorem dX11_alikeAt_48 : decode cX11_alikeAt 48 = .ok (.aload_n 0, 1) := by decide +kernel
theorem dX11_alikeAt_49 : decode cX11_alikeAt 49 = .ok (.getfield 68, 3) := by decide +kernel
theorem dX11_alikeAt_52 : decode cX11_alikeAt 52 = .ok (.iconst 5, 1) := by decide +kernel
theorem dX11_alikeAt_53 : decode cX11_alikeAt 53 = .ok (.iload_n 3, 1) := by decide +kernel
theorem dX11_alikeAt_54 : decode cX11_alikeAt 54 = .ok (.imul, 1) := by decide +kernel
theorem dX11_alikeAt_55 : decode cX11_alikeAt 55 = .ok (.iload_n 1, 1) := by decide +kernel
theorem dX11_alikeAt_56 : decode cX11_alikeAt 56 = .ok (.iadd, 1) := by decide +kernel
theorem dX11_alikeAt_57 : decode cX11_alikeAt 57 = .ok (.iaload, 1) := by decide +kernel
theorem dX11_alikeAt_58 : decode cX11_alikeAt 58 = .ok (.aload_n 0, 1) := by decide +kernel
theorem dX11_alikeAt_59 : decode cX11_alikeAt 59 = .ok (.getfield 68, 3) := by decide +kernel
theorem dX11_alikeAt_62 : decode cX11_alikeAt 62 = .ok (.iconst 5, 1) := by decide +kernel
theorem dX11_alikeAt_63 : decode cX11_alikeAt 63 = .ok (.iload 5, 2) := by decide +kernel
theorem dX11_alikeAt_65 : decode cX11_alikeAt 65 = .ok (.imul, 1) := by decide +kernel
theorem dX11_alikeAt_66 : decode cX11_alikeAt 66 = .ok (.iload_n 1, 1) := by decide +kernel
theorem dX11_alikeAt_67 : decode cX11_alikeAt 67 = .ok (.iadd, 1) := by decide +kernel
theorem dX11_alikeAt_68 : decode cX11_alikeAt 68 = .ok (.iaload, 1) := by decide +kernel
theorem dX11_alikeAt_69 : decode cX11_alikeAt 69 = .ok (.if_icmp .ne 7, 3) := by decide +kernel
theorem dX11_alikeAt_72 : decode cX11_alikeAt 72 = .ok (.iconst 1, 1) := by decide +kernel
theorem dX11_alikeAt_73 : decode cX11_alikeAt 73 = .ok (.goto 4, 3) := by decide +kernel
theorem dX11_alikeAt_76 : decode cX11_alikeAt 76 = .ok (.iconst 0, 1) := by decide +kernel
theorem dX11_alikeAt_77 : decode cX11_alikeAt 77 = .ok (.iadd, 1) := by decide +kernel
theorem dX11_alikeAt_78 : decode cX11_alikeAt 78 = .ok (.istore 4, 2) := by decide +kernel
theorem dX11_alikeAt_80 : decode cX11_alikeAt 80 = .ok (.iinc 5 1, 3) := by decide +kernel
theorem dX11_alikeAt_83 : decode cX11_alikeAt 83 = .ok (.goto (-65), 3) := by decide +kernel
theorem dX11_alikeAt_86 : decode cX11_alikeAt 86 = .ok (.iload 4, 2) := by decide +kernel
theorem dX11_alikeAt_88 : decode cX11_alikeAt 88 = .ok (.iload_n 2, 1) := by decide +kernel
theorem dX11_alikeAt_89 : decode cX11_alikeAt 89 = .ok (.if_icmp .le 8, 3) := by decide +kernel
theorem dX11_alikeAt_92 : decode cX11_alikeAt 92 = .ok (.iload 4, 2) := by decide +kernel
theorem dX11_alikeAt_94 : decode cX11_alikeAt 94 = .ok (.goto 4, 3) := by decide +kernel
theorem dX11_alikeAt_97 : decode cX11_alikeAt 97 = .ok (.iload_n 2, 1) := by decide +kernel
theorem dX11_alikeAt_98 : decode cX11_alikeAt 98 = .ok (.istore_n 2, 1) := by decide +kernel
theorem dX11_alikeAt_99 : decode cX11_alikeAt 99 = .ok (.iinc 3 1, 3) := by decide +kernel
theorem dX11_alikeAt_102 : decode cX11_alikeAt 102 = .ok (.goto (-98), 3) := by decide +kernel
theorem dX11_alikeAt_105 : decode cX11_alikeAt 105 = .ok (.iload_n 2, 1) := by decide +kernel
theorem dX11_alikeAt_106 : decode cX11_alikeAt 106 = .ok (.ireturn, 1) := by decide +kernel
theorem dX11_areAlike_0 : decode cX11_areAlike 0 = .ok (.iconst 0, 1) := by decide +kernel
theorem dX11_areAlike_1 : decode cX11_areAlike 1 = .ok (.istore_n 3, 1) := by decide +kernel
theorem dX11_areAlike_2 : decode cX11_areAlike 2 = .ok (.iload_n 3, 1) := by decide +kernel
theorem dX11_areAlike_3 : decode cX11_areAlike 3 = .ok (.bipush 6, 2) := by decide +kernel
theorem dX11_areAlike_5 : decode cX11_areAlike 5 = .ok (.if_icmp .ge 36, 3) := by decide +kernel
theorem dX11_areAlike_8 : decode cX11_areAlike 8 = .ok (.aload_n 0, 1) := by decide +kernel
theorem dX11_areAlike_9 : decode cX11_areAlike 9 = .ok (.getfield 61, 3) := by decide +kernel
theorem dX11_areAlike_12 : decode cX11_areAlike 12 = .ok (.bipush 6, 2) := by decide +kernel
theorem dX11_areAlike_14 : decode cX11_areAlike 14 = .ok (.iload_n 1, 1) := by decide +kernel
theorem dX11_areAlike_15 : decode cX11_areAlike 15 = .ok (.imul, 1) := by decide +kernel
theorem dX11_areAlike_16 : decode cX11_areAlike 16 = .ok (.iload_n 3, 1) := by decide +kernel
theorem dX11_areAlike_17 : decode cX11_areAlike 17 = .ok (.iadd, 1) := by decide +kernel
theorem dX11_areAlike_18 : decode cX11_areAlike 18 = .ok (.iaload, 1) := by decide +kernel
theorem dX11_areAlike_19 : decode cX11_areAlike 19 = .ok (.aload_n 0, 1) := by decide +kernel
theorem dX11_areAlike_20 : decode cX11_areAlike 20 = .ok (.getfield 61, 3) := by decide +kernel
theorem dX11_areAlike_23 : decode cX11_areAlike 23 = .ok (.bipush 6, 2) := by decide +kernel
theorem dX11_areAlike_25 : decode cX11_areAlike 25 = .ok (.iload_n 2, 1) := by decide +kernel
theorem dX11_areAlike_26 : decode cX11_areAlike 26 = .ok (.imul, 1) := by decide +kernel
theorem dX11_areAlike_27 : decode cX11_areAlike 27 = .ok (.iload_n 3, 1) := by decide +kernel
theorem dX11_areAlike_28 : decode cX11_areAlike 28 = .ok (.iadd, 1) := by decide +kernel
theorem dX11_areAlike_29 : decode cX11_areAlike 29 = .ok (.iaload, 1) := by decide +kernel
theorem dX11_areAlike_30 : decode cX11_areAlike 30 = .ok (.if_icmp .eq 5, 3) := by decide +kernel
theorem dX11_areAlike_33 : decode cX11_areAlike 33 = .ok (.iconst 0, 1) := by decide +kernel
theorem dX11_areAlike_34 : decode cX11_areAlike 34 = .ok (.ireturn, 1) := by decide +kernel
theorem dX11_areAlike_35 : decode cX11_areAlike 35 = .ok (.iinc 3 1, 3) := by decide +kernel
theorem dX11_areAlike_38 : decode cX11_areAlike 38 = .ok (.goto (-36), 3) := by decide +kernel
theorem dX11_areAlike_41 : decode cX11_areAlike 41 = .ok (.iconst 1, 1) := by decide +kernel
theorem dX11_areAlike_42 : decode cX11_areAlike 42 = .ok (.ireturn, 1) := by decide +kernel
theorem dX11_count_0 : decode cX11_count 0 = .ok (.iload_n 1, 1) := by decide +kernel
theorem dX11_count_1 : decode cX11_count 1 = .ok (.tableswitch 136 0 13 #[71, 71, 71, 71, 80, 85, 90, 98, 103, 108, 113, 121, 126, 131], 71) := by decide +kernel
theorem dX11_count_72 : decode cX11_count 72 = .ok (.aload_n 0, 1) := by decide +kernel
theorem dX11_count_73 : decode cX11_count 73 = .ok (.getfield 39, 3) := by decide +kernel
theorem dX11_count_76 : decode cX11_count 76 = .ok (.iload_n 1, 1) := by decide +kernel
theorem dX11_count_77 : decode cX11_count 77 = .ok (.iconst 1, 1) := by decide +kernel
theorem dX11_count_78 : decode cX11_count 78 = .ok (.iadd, 1) := by decide +kernel
theorem dX11_count_79 : decode cX11_count 79 = .ok (.iaload, 1) := by decide +kernel
theorem dX11_count_80 : decode cX11_count 80 = .ok (.ireturn, 1) := by decide +kernel
theorem dX11_count_81 : decode cX11_count 81 = .ok (.aload_n 0, 1) := by decide +kernel
theorem dX11_count_82 : decode cX11_count 82 = .ok (.getfield 258, 3) := by decide +kernel
theorem dX11_count_85 : decode cX11_count 85 = .ok (.ireturn, 1) := by decide +kernel
theorem dX11_count_86 : decode cX11_count 86 = .ok (.aload_n 0, 1) := by decide +kernel
theorem dX11_count_87 : decode cX11_count 87 = .ok (.getfield 42, 3) := by decide +kernel
theorem dX11_count_90 : decode cX11_count 90 = .ok (.ireturn, 1) := by decide +kernel
theorem dX11_count_91 : decode cX11_count 91 = .ok (.aload_n 0, 1) := by decide +kernel
theorem dX11_count_92 : decode cX11_count 92 = .ok (.getfield 39, 3) := by decide +kernel
theorem dX11_count_95 : decode cX11_count 95 = .ok (.bipush 10, 2) := by decide +kernel
theorem dX11_count_97 : decode cX11_count 97 = .ok (.iaload, 1) := by decide +kernel
theorem dX11_count_98 : decode cX11_count 98 = .ok (.ireturn, 1) := by decide +kernel
theorem dX11_count_99 : decode cX11_count 99 = .ok (.aload_n 0, 1) := by decide +kernel
theorem dX11_count_100 : decode cX11_count 100 = .ok (.invokevirtual 379, 3) := by decide +kernel
theorem dX11_count_103 : decode cX11_count 103 = .ok (.ireturn, 1) := by decide +kernel
theorem dX11_count_104 : decode cX11_count 104 = .ok (.aload_n 0, 1) := by decide +kernel
theorem dX11_count_105 : decode cX11_count 105 = .ok (.invokevirtual 466, 3) := by decide +kernel
theorem dX11_count_108 : decode cX11_count 108 = .ok (.ireturn, 1) := by decide +kernel
theorem dX11_count_109 : decode cX11_count 109 = .ok (.aload_n 0, 1) := by decide +kernel
theorem dX11_count_110 : decode cX11_count 110 = .ok (.invokevirtual 394, 3) := by decide +kernel
theorem dX11_count_113 : decode cX11_count 113 = .ok (.ireturn, 1) := by decide +kernel
theorem dX11_count_114 : decode cX11_count 114 = .ok (.aload_n 0, 1) := by decide +kernel
theorem dX11_count_115 : decode cX11_count 115 = .ok (.getfield 39, 3) := by decide +kernel
theorem dX11_count_118 : decode cX11_count 118 = .ok (.bipush 126, 2) := by decide +kernel
theorem dX11_count_120 : decode cX11_count 120 = .ok (.iaload, 1) := by decide +kernel
theorem dX11_count_121 : decode cX11_count 121 = .ok (.ireturn, 1) := by decide +kernel
theorem dX11_count_122 : decode cX11_count 122 = .ok (.aload_n 0, 1) := by decide +kernel
theorem dX11_count_123 : decode cX11_count 123 = .ok (.getfield 267, 3) := by decide +kernel
theorem dX11_count_126 : decode cX11_count 126 = .ok (.ireturn, 1) := by decide +kernel
theorem dX11_count_127 : decode cX11_count 127 = .ok (.aload_n 0, 1) := by decide +kernel
theorem dX11_count_128 : decode cX11_count 128 = .ok (.getfield 446, 3) := by decide +kernel
theorem dX11_count_131 : decode cX11_count 131 = .ok (.ireturn, 1) := by decide +kernel
theorem dX11_count_132 : decode cX11_count 132 = .ok (.aload_n 0, 1) := by decide +kernel
theorem dX11_count_133 : decode cX11_count 133 = .ok (.getfield 83, 3) := by decide +kernel
theorem dX11_count_136 : decode cX11_count 136 = .ok (.ireturn, 1) := by decide +kernel
theorem dX11_count_137 : decode cX11_count 137 = .ok (.iconst (-1), 1) := by decide +kernel
theorem dX11_count_138 : decode cX11_count 138 = .ok (.ireturn, 1) := by decide +kernel
theorem dX11_covers_0 : decode cX11_covers 0 = .ok (.iconst 0, 1) := by decide +kernel
theorem dX11_covers_1 : decode cX11_covers 1 = .ok (.istore_n 2, 1) := by decide +kernel
theorem dX11_covers_2 : decode cX11_covers 2 = .ok (.iload_n 2, 1) := by decide +kernel
theorem dX11_covers_3 : decode cX11_covers 3 = .ok (.aload_n 0, 1) := by decide +kernel
theorem dX11_covers_4 : decode cX11_covers 4 = .ok (.getfield 39, 3) := by decide +kernel
theorem dX11_covers_7 : decode cX11_covers 7 = .ok (.iconst 1, 1) := by decide +kernel
theorem dX11_covers_8 : decode cX11_covers 8 = .ok (.iaload, 1) := by decide +kernel
theorem dX11_covers_9 : decode cX11_covers 9 = .ok (.if_icmp .ge 35, 3) := by decide +kernel
theorem dX11_covers_12 : decode cX11_covers 12 = .ok (.iload_n 1, 1) := by decide +kernel
theorem dX11_covers_13 : decode cX11_covers 13 = .ok (.iload_n 2, 1) := by decide +kernel
theorem dX11_covers_14 : decode cX11_covers 14 = .ok (.invokestatic 297, 3) := by decide +kernel
theorem dX11_covers_17 : decode cX11_covers 17 = .ok (.ifCond .ne 21, 3) := by decide +kernel
theorem dX11_covers_20 : decode cX11_covers 20 = .ok (.aload_n 0, 1) := by decide +kernel
theorem dX11_covers_21 : decode cX11_covers 21 = .ok (.getfield 39, 3) := by decide +kernel
theorem dX11_covers_24 : decode cX11_covers 24 = .ok (.bipush 88, 2) := by decide +kernel
theorem dX11_covers_26 : decode cX11_covers 26 = .ok (.iload_n 2, 1) := by decide +kernel
theorem dX11_covers_27 : decode cX11_covers 27 = .ok (.iadd, 1) := by decide +kernel
theorem dX11_covers_28 : decode cX11_covers 28 = .ok (.iaload, 1) := by decide +kernel
theorem dX11_covers_29 : decode cX11_covers 29 = .ok (.iload_n 1, 1) := by decide +kernel
theorem dX11_covers_30 : decode cX11_covers 30 = .ok (.iconst (-1), 1) := by decide +kernel
theorem dX11_covers_31 : decode cX11_covers 31 = .ok (.ixor, 1) := by decide +kernel
theorem dX11_covers_32 : decode cX11_covers 32 = .ok (.iand, 1) := by decide +kernel
theorem dX11_covers_33 : decode cX11_covers 33 = .ok (.ifCond .eq 5, 3) := by decide +kernel
theorem dX11_covers_36 : decode cX11_covers 36 = .ok (.iconst 0, 1) := by decide +kernel
theorem dX11_covers_37 : decode cX11_covers 37 = .ok (.ireturn, 1) := by decide +kernel
theorem dX11_covers_38 : decode cX11_covers 38 = .ok (.iinc 2 1, 3) := by decide +kernel
theorem dX11_covers_41 : decode cX11_covers 41 = .ok (.goto (-39), 3) := by decide +kernel
theorem dX11_covers_44 : decode cX11_covers 44 = .ok (.iconst 1, 1) := by decide +kernel
theorem dX11_covers_45 : decode cX11_covers 45 = .ok (.ireturn, 1) := by decide +kernel
theorem dX11_far_0 : decode cX11_far 0 = .ok (.aload_n 0, 1) := by decide +kernel
theorem dX11_far_1 : decode cX11_far 1 = .ok (.iload_n 1, 1) := by decide +kernel
theorem dX11_far_2 : decode cX11_far 2 = .ok (.invokevirtual 317, 3) := by decide +kernel
theorem dX11_far_5 : decode cX11_far 5 = .ok (.ifCond .eq 19, 3) := by decide +kernel
theorem dX11_far_8 : decode cX11_far 8 = .ok (.aload_n 0, 1) := by decide +kernel
theorem dX11_far_9 : decode cX11_far 9 = .ok (.iload_n 1, 1) := by decide +kernel
theorem dX11_far_10 : decode cX11_far 10 = .ok (.aload_n 0, 1) := by decide +kernel
theorem dX11_far_11 : decode cX11_far 11 = .ok (.iload_n 1, 1) := by decide +kernel
theorem dX11_far_12 : decode cX11_far 12 = .ok (.invokevirtual 291, 3) := by decide +kernel
theorem dX11_far_15 : decode cX11_far 15 = .ok (.invokevirtual 333, 3) := by decide +kernel
theorem dX11_far_18 : decode cX11_far 18 = .ok (.invokestatic 388, 3) := by decide +kernel
theorem dX11_far_21 : decode cX11_far 21 = .ok (.goto 4, 3) := by decide +kernel
theorem dX11_far_24 : decode cX11_far 24 = .ok (.iconst (-1), 1) := by decide +kernel
theorem dX11_far_25 : decode cX11_far 25 = .ok (.ireturn, 1) := by decide +kernel
theorem dX11_hasThen_0 : decode cX11_hasThen 0 = .ok (.aload_n 0, 1) := by decide +kernel
theorem dX11_hasThen_1 : decode cX11_hasThen 1 = .ok (.iload_n 1, 1) := by decide +kernel
theorem dX11_hasThen_2 : decode cX11_hasThen 2 = .ok (.invokevirtual 288, 3) := by decide +kernel
theorem dX11_hasThen_5 : decode cX11_hasThen 5 = .ok (.ifCond .ne 13, 3) := by decide +kernel
theorem dX11_hasThen_8 : decode cX11_hasThen 8 = .ok (.aload_n 0, 1) := by decide +kernel
theorem dX11_hasThen_9 : decode cX11_hasThen 9 = .ok (.getfield 39, 3) := by decide +kernel
theorem dX11_hasThen_12 : decode cX11_hasThen 12 = .ok (.bipush 50, 2) := by decide +kernel
theorem dX11_hasThen_14 : decode cX11_hasThen 14 = .ok (.iload_n 1, 1) := by decide +kernel
theorem dX11_hasThen_15 : decode cX11_hasThen 15 = .ok (.iadd, 1) := by decide +kernel
theorem dX11_hasThen_16 : decode cX11_hasThen 16 = .ok (.iaload, 1) := by decide +kernel
theorem dX11_hasThen_17 : decode cX11_hasThen 17 = .ok (.ireturn, 1) := by decide +kernel
theorem dX11_hasThen_18 : decode cX11_hasThen 18 = .ok (.iconst 0, 1) := by decide +kernel
theorem dX11_hasThen_19 : decode cX11_hasThen 19 = .ok (.istore_n 2, 1) := by decide +kernel
theorem dX11_hasThen_20 : decode cX11_hasThen 20 = .ok (.iload_n 2, 1) := by decide +kernel
theorem dX11_hasThen_21 : decode cX11_hasThen 21 = .ok (.aload_n 0, 1) := by decide +kernel
theorem dX11_hasThen_22 : decode cX11_hasThen 22 = .ok (.getfield 39, 3) := by decide +kernel
theorem dX11_hasThen_25 : decode cX11_hasThen 25 = .ok (.iconst 4, 1) := by decide +kernel
theorem dX11_hasThen_26 : decode cX11_hasThen 26 = .ok (.iaload, 1) := by decide +kernel
theorem dX11_hasThen_27 : decode cX11_hasThen 27 = .ok (.if_icmp .ge 24, 3) := by decide +kernel
theorem dX11_hasThen_30 : decode cX11_hasThen 30 = .ok (.aload_n 0, 1) := by decide +kernel
theorem dX11_hasThen_31 : decode cX11_hasThen 31 = .ok (.iload_n 2, 1) := by decide +kernel
theorem dX11_hasThen_32 : decode cX11_hasThen 32 = .ok (.invokevirtual 291, 3) := by decide +kernel
theorem dX11_hasThen_35 : decode cX11_hasThen 35 = .ok (.aload_n 0, 1) := by decide +kernel
theorem dX11_hasThen_36 : decode cX11_hasThen 36 = .ok (.iload_n 1, 1) := by decide +kernel
theorem dX11_hasThen_37 : decode cX11_hasThen 37 = .ok (.invokevirtual 311, 3) := by decide +kernel
theorem dX11_hasThen_40 : decode cX11_hasThen 40 = .ok (.if_icmp .ne 5, 3) := by decide +kernel
theorem dX11_hasThen_43 : decode cX11_hasThen 43 = .ok (.iconst 1, 1) := by decide +kernel
theorem dX11_hasThen_44 : decode cX11_hasThen 44 = .ok (.ireturn, 1) := by decide +kernel
theorem dX11_hasThen_45 : decode cX11_hasThen 45 = .ok (.iinc 2 1, 3) := by decide +kernel
theorem dX11_hasThen_48 : decode cX11_hasThen 48 = .ok (.goto (-28), 3) := by decide +kernel
theorem dX11_hasThen_51 : decode cX11_hasThen 51 = .ok (.iconst 0, 1) := by decide +kernel
theorem dX11_hasThen_52 : decode cX11_hasThen 52 = .ok (.ireturn, 1) := by decide +kernel
theorem dX11_illCorners_0 : decode cX11_illCorners 0 = .ok (.iconst 0, 1) := by decide +kernel
theorem dX11_illCorners_1 : decode cX11_illCorners 1 = .ok (.istore_n 2, 1) := by decide +kernel
theorem dX11_illCorners_2 : decode cX11_illCorners 2 = .ok (.iconst 0, 1) := by decide +kernel
theorem dX11_illCorners_3 : decode cX11_illCorners 3 = .ok (.istore_n 3, 1) := by decide +kernel
theorem dX11_illCorners_4 : decode cX11_illCorners 4 = .ok (.iload_n 3, 1) := by decide +kernel
theorem dX11_illCorners_5 : decode cX11_illCorners 5 = .ok (.aload_n 0, 1) := by decide +kernel
theorem dX11_illCorners_6 : decode cX11_illCorners 6 = .ok (.getfield 39, 3) := by decide +kernel
theorem dX11_illCorners_9 : decode cX11_illCorners 9 = .ok (.iconst 3, 1) := by decide +kernel
theorem dX11_illCorners_10 : decode cX11_illCorners 10 = .ok (.iaload, 1) := by decide +kernel
theorem dX11_illCorners_11 : decode cX11_illCorners 11 = .ok (.if_icmp .ge 40, 3) := by decide +kernel
theorem dX11_illCorners_14 : decode cX11_illCorners 14 = .ok (.iload_n 2, 1) := by decide +kernel
theorem dX11_illCorners_15 : decode cX11_illCorners 15 = .ok (.aload_n 0, 1) := by decide +kernel
theorem dX11_illCorners_16 : decode cX11_illCorners 16 = .ok (.iload_n 3, 1) := by decide +kernel
theorem dX11_illCorners_17 : decode cX11_illCorners 17 = .ok (.invokevirtual 288, 3) := by decide +kernel
theorem dX11_illCorners_20 : decode cX11_illCorners 20 = .ok (.ifCond .eq 22, 3) := by decide +kernel
theorem dX11_illCorners_23 : decode cX11_illCorners 23 = .ok (.aload_n 0, 1) := by decide +kernel
theorem dX11_illCorners_24 : decode cX11_illCorners 24 = .ok (.iload_n 3, 1) := by decide +kernel
theorem dX11_illCorners_25 : decode cX11_illCorners 25 = .ok (.iload_n 1, 1) := by decide +kernel
theorem dX11_illCorners_26 : decode cX11_illCorners 26 = .ok (.invokevirtual 330, 3) := by decide +kernel
theorem dX11_illCorners_29 : decode cX11_illCorners 29 = .ok (.ifCond .eq 13, 3) := by decide +kernel
theorem dX11_illCorners_32 : decode cX11_illCorners 32 = .ok (.iconst 1, 1) := by decide +kernel
theorem dX11_illCorners_33 : decode cX11_illCorners 33 = .ok (.aload_n 0, 1) := by decide +kernel
theorem dX11_illCorners_34 : decode cX11_illCorners 34 = .ok (.iload_n 3, 1) := by decide +kernel
theorem dX11_illCorners_35 : decode cX11_illCorners 35 = .ok (.invokevirtual 311, 3) := by decide +kernel
theorem dX11_illCorners_38 : decode cX11_illCorners 38 = .ok (.ishl, 1) := by decide +kernel
theorem dX11_illCorners_39 : decode cX11_illCorners 39 = .ok (.goto 4, 3) := by decide +kernel
theorem dX11_illCorners_42 : decode cX11_illCorners 42 = .ok (.iconst 0, 1) := by decide +kernel
theorem dX11_illCorners_43 : decode cX11_illCorners 43 = .ok (.ior, 1) := by decide +kernel
theorem dX11_illCorners_44 : decode cX11_illCorners 44 = .ok (.istore_n 2, 1) := by decide +kernel
theorem dX11_illCorners_45 : decode cX11_illCorners 45 = .ok (.iinc 3 1, 3) := by decide +kernel
theorem dX11_illCorners_48 : decode cX11_illCorners 48 = .ok (.goto (-44), 3) := by decide +kernel
theorem dX11_illCorners_51 : decode cX11_illCorners 51 = .ok (.iload_n 2, 1) := by decide +kernel
theorem dX11_illCorners_52 : decode cX11_illCorners 52 = .ok (.ireturn, 1) := by decide +kernel
theorem dX11_isRest_0 : decode cX11_isRest 0 = .ok (.iconst 0, 1) := by decide +kernel
theorem dX11_isRest_1 : decode cX11_isRest 1 = .ok (.istore_n 3, 1) := by decide +kernel
theorem dX11_isRest_2 : decode cX11_isRest 2 = .ok (.iload_n 3, 1) := by decide +kernel
theorem dX11_isRest_3 : decode cX11_isRest 3 = .ok (.aload_n 0, 1) := by decide +kernel
theorem dX11_isRest_4 : decode cX11_isRest 4 = .ok (.getfield 39, 3) := by decide +kernel
theorem dX11_isRest_7 : decode cX11_isRest 7 = .ok (.iconst 1, 1) := by decide +kernel
theorem dX11_isRest_8 : decode cX11_isRest 8 = .ok (.iaload, 1) := by decide +kernel
theorem dX11_isRest_9 : decode cX11_isRest 9 = .ok (.if_icmp .ge 73, 3) := by decide +kernel
theorem dX11_isRest_12 : decode cX11_isRest 12 = .ok (.aload_n 0, 1) := by decide +kernel
theorem dX11_isRest_13 : decode cX11_isRest 13 = .ok (.getfield 58, 3) := by decide +kernel
theorem dX11_isRest_16 : decode cX11_isRest 16 = .ok (.iconst 2, 1) := by decide +kernel
theorem dX11_isRest_17 : decode cX11_isRest 17 = .ok (.bipush 8, 2) := by decide +kernel
theorem dX11_isRest_19 : decode cX11_isRest 19 = .ok (.iload_n 3, 1) := by decide +kernel
theorem dX11_isRest_20 : decode cX11_isRest 20 = .ok (.imul, 1) := by decide +kernel
theorem dX11_isRest_21 : decode cX11_isRest 21 = .ok (.iload_n 2, 1) := by decide +kernel
theorem dX11_isRest_22 : decode cX11_isRest 22 = .ok (.iadd, 1) := by decide +kernel
theorem dX11_isRest_23 : decode cX11_isRest 23 = .ok (.imul, 1) := by decide +kernel
theorem dX11_isRest_24 : decode cX11_isRest 24 = .ok (.iaload, 1) := by decide +kernel
theorem dX11_isRest_25 : decode cX11_isRest 25 = .ok (.aload_n 0, 1) := by decide +kernel
theorem dX11_isRest_26 : decode cX11_isRest 26 = .ok (.getfield 58, 3) := by decide +kernel
theorem dX11_isRest_29 : decode cX11_isRest 29 = .ok (.iconst 2, 1) := by decide +kernel
theorem dX11_isRest_30 : decode cX11_isRest 30 = .ok (.bipush 8, 2) := by decide +kernel
theorem dX11_isRest_32 : decode cX11_isRest 32 = .ok (.iload_n 1, 1) := by decide +kernel
theorem dX11_isRest_33 : decode cX11_isRest 33 = .ok (.imul, 1) := by decide +kernel
theorem dX11_isRest_34 : decode cX11_isRest 34 = .ok (.iload_n 2, 1) := by decide +kernel
theorem dX11_isRest_35 : decode cX11_isRest 35 = .ok (.iadd, 1) := by decide +kernel
theorem dX11_isRest_36 : decode cX11_isRest 36 = .ok (.imul, 1) := by decide +kernel
theorem dX11_isRest_37 : decode cX11_isRest 37 = .ok (.iaload, 1) := by decide +kernel
theorem dX11_isRest_38 : decode cX11_isRest 38 = .ok (.if_icmp .gt 36, 3) := by decide +kernel
theorem dX11_isRest_41 : decode cX11_isRest 41 = .ok (.aload_n 0, 1) := by decide +kernel
theorem dX11_isRest_42 : decode cX11_isRest 42 = .ok (.getfield 58, 3) := by decide +kernel
theorem dX11_isRest_45 : decode cX11_isRest 45 = .ok (.iconst 2, 1) := by decide +kernel
theorem dX11_isRest_46 : decode cX11_isRest 46 = .ok (.bipush 8, 2) := by decide +kernel
theorem dX11_isRest_48 : decode cX11_isRest 48 = .ok (.iload_n 1, 1) := by decide +kernel
theorem dX11_isRest_49 : decode cX11_isRest 49 = .ok (.imul, 1) := by decide +kernel
theorem dX11_isRest_50 : decode cX11_isRest 50 = .ok (.iload_n 3, 1) := by decide +kernel
theorem dX11_isRest_51 : decode cX11_isRest 51 = .ok (.iadd, 1) := by decide +kernel
theorem dX11_isRest_52 : decode cX11_isRest 52 = .ok (.imul, 1) := by decide +kernel
theorem dX11_isRest_53 : decode cX11_isRest 53 = .ok (.iconst 1, 1) := by decide +kernel
theorem dX11_isRest_54 : decode cX11_isRest 54 = .ok (.iadd, 1) := by decide +kernel
theorem dX11_isRest_55 : decode cX11_isRest 55 = .ok (.iaload, 1) := by decide +kernel
theorem dX11_isRest_56 : decode cX11_isRest 56 = .ok (.aload_n 0, 1) := by decide +kernel
theorem dX11_isRest_57 : decode cX11_isRest 57 = .ok (.getfield 58, 3) := by decide +kernel
theorem dX11_isRest_60 : decode cX11_isRest 60 = .ok (.iconst 2, 1) := by decide +kernel
theorem dX11_isRest_61 : decode cX11_isRest 61 = .ok (.bipush 8, 2) := by decide +kernel
theorem dX11_isRest_63 : decode cX11_isRest 63 = .ok (.iload_n 1, 1) := by decide +kernel
theorem dX11_isRest_64 : decode cX11_isRest 64 = .ok (.imul, 1) := by decide +kernel
theorem dX11_isRest_65 : decode cX11_isRest 65 = .ok (.iload_n 2, 1) := by decide +kernel
theorem dX11_isRest_66 : decode cX11_isRest 66 = .ok (.iadd, 1) := by decide +kernel
theorem dX11_isRest_67 : decode cX11_isRest 67 = .ok (.imul, 1) := by decide +kernel
theorem dX11_isRest_68 : decode cX11_isRest 68 = .ok (.iconst 1, 1) := by decide +kernel
theorem dX11_isRest_69 : decode cX11_isRest 69 = .ok (.iadd, 1) := by decide +kernel
theorem dX11_isRest_70 : decode cX11_isRest 70 = .ok (.iaload, 1) := by decide +kernel
theorem dX11_isRest_71 : decode cX11_isRest 71 = .ok (.if_icmp .le 5, 3) := by decide +kernel
theorem dX11_isRest_74 : decode cX11_isRest 74 = .ok (.iconst 0, 1) := by decide +kernel
theorem dX11_isRest_75 : decode cX11_isRest 75 = .ok (.ireturn, 1) := by decide +kernel
theorem dX11_isRest_76 : decode cX11_isRest 76 = .ok (.iinc 3 1, 3) := by decide +kernel
theorem dX11_isRest_79 : decode cX11_isRest 79 = .ok (.goto (-77), 3) := by decide +kernel
theorem dX11_isRest_82 : decode cX11_isRest 82 = .ok (.iconst 1, 1) := by decide +kernel
theorem dX11_isRest_83 : decode cX11_isRest 83 = .ok (.ireturn, 1) := by decide +kernel
theorem dX11_note_0 : decode cX11_note 0 = .ok (.iload_n 1, 1) := by decide +kernel
theorem dX11_note_1 : decode cX11_note 1 = .ok (.iconst (-1), 1) := by decide +kernel
theorem dX11_note_2 : decode cX11_note 2 = .ok (.if_icmp .ne 13, 3) := by decide +kernel
theorem dX11_note_5 : decode cX11_note 5 = .ok (.aload_n 0, 1) := by decide +kernel
theorem dX11_note_6 : decode cX11_note 6 = .ok (.getfield 39, 3) := by decide +kernel
theorem dX11_note_9 : decode cX11_note 9 = .ok (.bipush 126, 2) := by decide +kernel
theorem dX11_note_11 : decode cX11_note 11 = .ok (.iconst 0, 1) := by decide +kernel
theorem dX11_note_12 : decode cX11_note 12 = .ok (.iastore, 1) := by decide +kernel
theorem dX11_note_13 : decode cX11_note 13 = .ok (.iconst 0, 1) := by decide +kernel
theorem dX11_note_14 : decode cX11_note 14 = .ok (.ireturn, 1) := by decide +kernel
theorem dX11_note_15 : decode cX11_note 15 = .ok (.iload_n 1, 1) := by decide +kernel
theorem dX11_note_16 : decode cX11_note 16 = .ok (.i2l, 1) := by decide +kernel
theorem dX11_note_17 : decode cX11_note 17 = .ok (.lconst 0, 1) := by decide +kernel
theorem dX11_note_18 : decode cX11_note 18 = .ok (.ldc2_w 429, 3) := by decide +kernel
theorem dX11_note_21 : decode cX11_note 21 = .ok (.invokestatic 121, 3) := by decide +kernel
theorem dX11_note_24 : decode cX11_note 24 = .ok (.ifCond .eq 31, 3) := by decide +kernel
theorem dX11_note_27 : decode cX11_note 27 = .ok (.aload_n 0, 1) := by decide +kernel
theorem dX11_note_28 : decode cX11_note 28 = .ok (.iload_n 2, 1) := by decide +kernel
theorem dX11_note_29 : decode cX11_note 29 = .ok (.invokevirtual 317, 3) := by decide +kernel
theorem dX11_note_32 : decode cX11_note 32 = .ok (.ifCond .eq 23, 3) := by decide +kernel
theorem dX11_note_35 : decode cX11_note 35 = .ok (.aload_n 0, 1) := by decide +kernel
theorem dX11_note_36 : decode cX11_note 36 = .ok (.iload_n 3, 1) := by decide +kernel
theorem dX11_note_37 : decode cX11_note 37 = .ok (.invokevirtual 323, 3) := by decide +kernel
theorem dX11_note_40 : decode cX11_note 40 = .ok (.ifCond .eq 15, 3) := by decide +kernel
theorem dX11_note_43 : decode cX11_note 43 = .ok (.aload_n 0, 1) := by decide +kernel
theorem dX11_note_44 : decode cX11_note 44 = .ok (.getfield 39, 3) := by decide +kernel
theorem dX11_note_47 : decode cX11_note 47 = .ok (.bipush 126, 2) := by decide +kernel
theorem dX11_note_49 : decode cX11_note 49 = .ok (.iaload, 1) := by decide +kernel
theorem dX11_note_50 : decode cX11_note 50 = .ok (.bipush 10, 2) := by decide +kernel
theorem dX11_note_52 : decode cX11_note 52 = .ok (.if_icmp .ne 6, 3) := by decide +kernel
theorem dX11_note_55 : decode cX11_note 55 = .ok (.bipush (-2), 2) := by decide +kernel
theorem dX11_note_57 : decode cX11_note 57 = .ok (.ireturn, 1) := by decide +kernel
theorem dX11_note_58 : decode cX11_note 58 = .ok (.bipush 96, 2) := by decide +kernel
theorem dX11_note_60 : decode cX11_note 60 = .ok (.iconst 3, 1) := by decide +kernel
theorem dX11_note_61 : decode cX11_note 61 = .ok (.aload_n 0, 1) := by decide +kernel
theorem dX11_note_62 : decode cX11_note 62 = .ok (.getfield 39, 3) := by decide +kernel
theorem dX11_note_65 : decode cX11_note 65 = .ok (.bipush 126, 2) := by decide +kernel
theorem dX11_note_67 : decode cX11_note 67 = .ok (.iaload, 1) := by decide +kernel
theorem dX11_note_68 : decode cX11_note 68 = .ok (.imul, 1) := by decide +kernel
theorem dX11_note_69 : decode cX11_note 69 = .ok (.iadd, 1) := by decide +kernel
theorem dX11_note_70 : decode cX11_note 70 = .ok (.istore 4, 2) := by decide +kernel
theorem dX11_note_72 : decode cX11_note 72 = .ok (.aload_n 0, 1) := by decide +kernel
theorem dX11_note_73 : decode cX11_note 73 = .ok (.getfield 39, 3) := by decide +kernel
theorem dX11_note_76 : decode cX11_note 76 = .ok (.iload 4, 2) := by decide +kernel
theorem dX11_note_78 : decode cX11_note 78 = .ok (.iload_n 1, 1) := by decide +kernel
theorem dX11_note_79 : decode cX11_note 79 = .ok (.iastore, 1) := by decide +kernel
theorem dX11_note_80 : decode cX11_note 80 = .ok (.aload_n 0, 1) := by decide +kernel
theorem dX11_note_81 : decode cX11_note 81 = .ok (.getfield 39, 3) := by decide +kernel
theorem dX11_note_84 : decode cX11_note 84 = .ok (.iload 4, 2) := by decide +kernel
theorem dX11_note_86 : decode cX11_note 86 = .ok (.iconst 1, 1) := by decide +kernel
theorem dX11_note_87 : decode cX11_note 87 = .ok (.iadd, 1) := by decide +kernel
theorem dX11_note_88 : decode cX11_note 88 = .ok (.iload_n 2, 1) := by decide +kernel
theorem dX11_note_89 : decode cX11_note 89 = .ok (.iastore, 1) := by decide +kernel
theorem dX11_note_90 : decode cX11_note 90 = .ok (.aload_n 0, 1) := by decide +kernel
theorem dX11_note_91 : decode cX11_note 91 = .ok (.getfield 39, 3) := by decide +kernel
theorem dX11_note_94 : decode cX11_note 94 = .ok (.iload 4, 2) := by decide +kernel
theorem dX11_note_96 : decode cX11_note 96 = .ok (.iconst 2, 1) := by decide +kernel
theorem dX11_note_97 : decode cX11_note 97 = .ok (.iadd, 1) := by decide +kernel
theorem dX11_note_98 : decode cX11_note 98 = .ok (.iload_n 3, 1) := by decide +kernel
theorem dX11_note_99 : decode cX11_note 99 = .ok (.iastore, 1) := by decide +kernel
theorem dX11_note_100 : decode cX11_note 100 = .ok (.aload_n 0, 1) := by decide +kernel
theorem dX11_note_101 : decode cX11_note 101 = .ok (.getfield 39, 3) := by decide +kernel
theorem dX11_note_104 : decode cX11_note 104 = .ok (.bipush 126, 2) := by decide +kernel
theorem dX11_note_106 : decode cX11_note 106 = .ok (.dup2, 1) := by decide +kernel
theorem dX11_note_107 : decode cX11_note 107 = .ok (.iaload, 1) := by decide +kernel
theorem dX11_note_108 : decode cX11_note 108 = .ok (.iconst 1, 1) := by decide +kernel
theorem dX11_note_109 : decode cX11_note 109 = .ok (.iadd, 1) := by decide +kernel
theorem dX11_note_110 : decode cX11_note 110 = .ok (.iastore, 1) := by decide +kernel
theorem dX11_note_111 : decode cX11_note 111 = .ok (.aload_n 0, 1) := by decide +kernel
theorem dX11_note_112 : decode cX11_note 112 = .ok (.getfield 39, 3) := by decide +kernel
theorem dX11_note_115 : decode cX11_note 115 = .ok (.bipush 126, 2) := by decide +kernel
theorem dX11_note_117 : decode cX11_note 117 = .ok (.iaload, 1) := by decide +kernel
theorem dX11_note_118 : decode cX11_note 118 = .ok (.ireturn, 1) := by decide +kernel
theorem dX11_pence_0 : decode cX11_pence 0 = .ok (.aload_n 0, 1) := by decide +kernel
theorem dX11_pence_1 : decode cX11_pence 1 = .ok (.iload_n 2, 1) := by decide +kernel
theorem dX11_pence_2 : decode cX11_pence 2 = .ok (.invokevirtual 317, 3) := by decide +kernel
theorem dX11_pence_5 : decode cX11_pence 5 = .ok (.ifCond .eq 15, 3) := by decide +kernel
theorem dX11_pence_8 : decode cX11_pence 8 = .ok (.iload_n 1, 1) := by decide +kernel
theorem dX11_pence_9 : decode cX11_pence 9 = .ok (.i2l, 1) := by decide +kernel
theorem dX11_pence_10 : decode cX11_pence 10 = .ok (.lconst 0, 1) := by decide +kernel
theorem dX11_pence_11 : decode cX11_pence 11 = .ok (.ldc2_w 427, 3) := by decide +kernel
theorem dX11_pence_14 : decode cX11_pence 14 = .ok (.invokestatic 121, 3) := by decide +kernel
theorem dX11_pence_17 : decode cX11_pence 17 = .ok (.ifCond .ne 5, 3) := by decide +kernel
theorem dX11_pence_20 : decode cX11_pence 20 = .ok (.iconst (-1), 1) := by decide +kernel
theorem dX11_pence_21 : decode cX11_pence 21 = .ok (.ireturn, 1) := by decide +kernel
theorem dX11_pence_22 : decode cX11_pence 22 = .ok (.aload_n 0, 1) := by decide +kernel
theorem dX11_pence_23 : decode cX11_pence 23 = .ok (.invokevirtual 394, 3) := by decide +kernel
theorem dX11_pence_26 : decode cX11_pence 26 = .ok (.istore_n 3, 1) := by decide +kernel
theorem dX11_pence_27 : decode cX11_pence 27 = .ok (.iload_n 3, 1) := by decide +kernel
theorem dX11_pence_28 : decode cX11_pence 28 = .ok (.ifCond .ne 5, 3) := by decide +kernel
theorem dX11_pence_31 : decode cX11_pence 31 = .ok (.iconst 0, 1) := by decide +kernel
theorem dX11_pence_32 : decode cX11_pence 32 = .ok (.ireturn, 1) := by decide +kernel
theorem dX11_pence_33 : decode cX11_pence 33 = .ok (.iload_n 1, 1) := by decide +kernel
theorem dX11_pence_34 : decode cX11_pence 34 = .ok (.aload_n 0, 1) := by decide +kernel
theorem dX11_pence_35 : decode cX11_pence 35 = .ok (.iload_n 2, 1) := by decide +kernel
theorem dX11_pence_36 : decode cX11_pence 36 = .ok (.invokevirtual 294, 3) := by decide +kernel
theorem dX11_pence_39 : decode cX11_pence 39 = .ok (.imul, 1) := by decide +kernel
theorem dX11_pence_40 : decode cX11_pence 40 = .ok (.istore 4, 2) := by decide +kernel
theorem dX11_pence_42 : decode cX11_pence 42 = .ok (.iload_n 1, 1) := by decide +kernel
theorem dX11_pence_43 : decode cX11_pence 43 = .ok (.istore 5, 2) := by decide +kernel
theorem dX11_pence_45 : decode cX11_pence 45 = .ok (.iconst 0, 1) := by decide +kernel
theorem dX11_pence_46 : decode cX11_pence 46 = .ok (.istore 6, 2) := by decide +kernel
theorem dX11_pence_48 : decode cX11_pence 48 = .ok (.iconst 0, 1) := by decide +kernel
theorem dX11_pence_49 : decode cX11_pence 49 = .ok (.istore 7, 2) := by decide +kernel
theorem dX11_pence_51 : decode cX11_pence 51 = .ok (.iload 7, 2) := by decide +kernel
theorem dX11_pence_53 : decode cX11_pence 53 = .ok (.aload_n 0, 1) := by decide +kernel
theorem dX11_pence_54 : decode cX11_pence 54 = .ok (.getfield 39, 3) := by decide +kernel
theorem dX11_pence_57 : decode cX11_pence 57 = .ok (.iconst 4, 1) := by decide +kernel
theorem dX11_pence_58 : decode cX11_pence 58 = .ok (.iaload, 1) := by decide +kernel
theorem dX11_pence_59 : decode cX11_pence 59 = .ok (.if_icmp .ge 66, 3) := by decide +kernel
theorem dX11_pence_62 : decode cX11_pence 62 = .ok (.iload_n 1, 1) := by decide +kernel
theorem dX11_pence_63 : decode cX11_pence 63 = .ok (.aload_n 0, 1) := by decide +kernel
theorem dX11_pence_64 : decode cX11_pence 64 = .ok (.iload 7, 2) := by decide +kernel
theorem dX11_pence_66 : decode cX11_pence 66 = .ok (.invokevirtual 294, 3) := by decide +kernel
theorem dX11_pence_69 : decode cX11_pence 69 = .ok (.imul, 1) := by decide +kernel
theorem dX11_pence_70 : decode cX11_pence 70 = .ok (.istore 8, 2) := by decide +kernel
theorem dX11_pence_72 : decode cX11_pence 72 = .ok (.iload 5, 2) := by decide +kernel
theorem dX11_pence_74 : decode cX11_pence 74 = .ok (.iload 8, 2) := by decide +kernel
theorem dX11_pence_76 : decode cX11_pence 76 = .ok (.iload_n 3, 1) := by decide +kernel
theorem dX11_pence_77 : decode cX11_pence 77 = .ok (.idiv, 1) := by decide +kernel
theorem dX11_pence_78 : decode cX11_pence 78 = .ok (.isub, 1) := by decide +kernel
theorem dX11_pence_79 : decode cX11_pence 79 = .ok (.istore 5, 2) := by decide +kernel
theorem dX11_pence_81 : decode cX11_pence 81 = .ok (.iload 6, 2) := by decide +kernel
theorem dX11_pence_83 : decode cX11_pence 83 = .ok (.iload 8, 2) := by decide +kernel
theorem dX11_pence_85 : decode cX11_pence 85 = .ok (.iload_n 3, 1) := by decide +kernel
theorem dX11_pence_86 : decode cX11_pence 86 = .ok (.irem, 1) := by decide +kernel
theorem dX11_pence_87 : decode cX11_pence 87 = .ok (.iload 4, 2) := by decide +kernel
theorem dX11_pence_89 : decode cX11_pence 89 = .ok (.iload_n 3, 1) := by decide +kernel
theorem dX11_pence_90 : decode cX11_pence 90 = .ok (.irem, 1) := by decide +kernel
theorem dX11_pence_91 : decode cX11_pence 91 = .ok (.if_icmp .gt 20, 3) := by decide +kernel
theorem dX11_pence_94 : decode cX11_pence 94 = .ok (.iload 8, 2) := by decide +kernel
theorem dX11_pence_96 : decode cX11_pence 96 = .ok (.iload_n 3, 1) := by decide +kernel
theorem dX11_pence_97 : decode cX11_pence 97 = .ok (.irem, 1) := by decide +kernel
theorem dX11_pence_98 : decode cX11_pence 98 = .ok (.iload 4, 2) := by decide +kernel
theorem dX11_pence_100 : decode cX11_pence 100 = .ok (.iload_n 3, 1) := by decide +kernel
theorem dX11_pence_101 : decode cX11_pence 101 = .ok (.irem, 1) := by decide +kernel
theorem dX11_pence_102 : decode cX11_pence 102 = .ok (.if_icmp .ne 13, 3) := by decide +kernel
theorem dX11_pence_105 : decode cX11_pence 105 = .ok (.iload 7, 2) := by decide +kernel
theorem dX11_pence_107 : decode cX11_pence 107 = .ok (.iload_n 2, 1) := by decide +kernel
theorem dX11_pence_108 : decode cX11_pence 108 = .ok (.if_icmp .ge 7, 3) := by decide +kernel
theorem dX11_pence_111 : decode cX11_pence 111 = .ok (.iconst 1, 1) := by decide +kernel
theorem dX11_pence_112 : decode cX11_pence 112 = .ok (.goto 4, 3) := by decide +kernel
theorem dX11_pence_115 : decode cX11_pence 115 = .ok (.iconst 0, 1) := by decide +kernel
theorem dX11_pence_116 : decode cX11_pence 116 = .ok (.iadd, 1) := by decide +kernel
theorem dX11_pence_117 : decode cX11_pence 117 = .ok (.istore 6, 2) := by decide +kernel
theorem dX11_pence_119 : decode cX11_pence 119 = .ok (.iinc 7 1, 3) := by decide +kernel
theorem dX11_pence_122 : decode cX11_pence 122 = .ok (.goto (-71), 3) := by decide +kernel
theorem dX11_pence_125 : decode cX11_pence 125 = .ok (.iload 4, 2) := by decide +kernel
theorem dX11_pence_127 : decode cX11_pence 127 = .ok (.iload_n 3, 1) := by decide +kernel
theorem dX11_pence_128 : decode cX11_pence 128 = .ok (.idiv, 1) := by decide +kernel
theorem dX11_pence_129 : decode cX11_pence 129 = .ok (.iload 6, 2) := by decide +kernel
theorem dX11_pence_131 : decode cX11_pence 131 = .ok (.iload 5, 2) := by decide +kernel
theorem dX11_pence_133 : decode cX11_pence 133 = .ok (.if_icmp .ge 7, 3) := by decide +kernel
theorem dX11_pence_136 : decode cX11_pence 136 = .ok (.iconst 1, 1) := by decide +kernel
theorem dX11_pence_137 : decode cX11_pence 137 = .ok (.goto 4, 3) := by decide +kernel
theorem dX11_pence_140 : decode cX11_pence 140 = .ok (.iconst 0, 1) := by decide +kernel
theorem dX11_pence_141 : decode cX11_pence 141 = .ok (.iadd, 1) := by decide +kernel
theorem dX11_pence_142 : decode cX11_pence 142 = .ok (.ireturn, 1) := by decide +kernel
theorem dX11_stuck_0 : decode cX11_stuck 0 = .ok (.aload_n 0, 1) := by decide +kernel
theorem dX11_stuck_1 : decode cX11_stuck 1 = .ok (.iload_n 1, 1) := by decide +kernel
theorem dX11_stuck_2 : decode cX11_stuck 2 = .ok (.invokevirtual 317, 3) := by decide +kernel
theorem dX11_stuck_5 : decode cX11_stuck 5 = .ok (.ifCond .ne 5, 3) := by decide +kernel
theorem dX11_stuck_8 : decode cX11_stuck 8 = .ok (.iconst (-1), 1) := by decide +kernel
theorem dX11_stuck_9 : decode cX11_stuck 9 = .ok (.ireturn, 1) := by decide +kernel
theorem dX11_stuck_10 : decode cX11_stuck 10 = .ok (.aload_n 0, 1) := by decide +kernel
theorem dX11_stuck_11 : decode cX11_stuck 11 = .ok (.iload_n 1, 1) := by decide +kernel
theorem dX11_stuck_12 : decode cX11_stuck 12 = .ok (.invokevirtual 291, 3) := by decide +kernel
theorem dX11_stuck_15 : decode cX11_stuck 15 = .ok (.istore_n 2, 1) := by decide +kernel
theorem dX11_stuck_16 : decode cX11_stuck 16 = .ok (.aload_n 0, 1) := by decide +kernel
theorem dX11_stuck_17 : decode cX11_stuck 17 = .ok (.getfield 39, 3) := by decide +kernel
theorem dX11_stuck_20 : decode cX11_stuck 20 = .ok (.bipush 56, 2) := by decide +kernel
theorem dX11_stuck_22 : decode cX11_stuck 22 = .ok (.iload_n 1, 1) := by decide +kernel
theorem dX11_stuck_23 : decode cX11_stuck 23 = .ok (.iadd, 1) := by decide +kernel
theorem dX11_stuck_24 : decode cX11_stuck 24 = .ok (.iaload, 1) := by decide +kernel
theorem dX11_stuck_25 : decode cX11_stuck 25 = .ok (.istore_n 3, 1) := by decide +kernel
theorem dX11_stuck_26 : decode cX11_stuck 26 = .ok (.aload_n 0, 1) := by decide +kernel
theorem dX11_stuck_27 : decode cX11_stuck 27 = .ok (.iload_n 2, 1) := by decide +kernel
theorem dX11_stuck_28 : decode cX11_stuck 28 = .ok (.iload_n 3, 1) := by decide +kernel
theorem dX11_stuck_29 : decode cX11_stuck 29 = .ok (.iconst 0, 1) := by decide +kernel
theorem dX11_stuck_30 : decode cX11_stuck 30 = .ok (.invokevirtual 304, 3) := by decide +kernel
theorem dX11_stuck_33 : decode cX11_stuck 33 = .ok (.bipush 99, 2) := by decide +kernel
theorem dX11_stuck_35 : decode cX11_stuck 35 = .ok (.if_icmp .ne 5, 3) := by decide +kernel
theorem dX11_stuck_38 : decode cX11_stuck 38 = .ok (.iconst 0, 1) := by decide +kernel
theorem dX11_stuck_39 : decode cX11_stuck 39 = .ok (.ireturn, 1) := by decide +kernel
theorem dX11_stuck_40 : decode cX11_stuck 40 = .ok (.iconst 1, 1) := by decide +kernel
theorem dX11_stuck_41 : decode cX11_stuck 41 = .ok (.iload_n 2, 1) := by decide +kernel
theorem dX11_stuck_42 : decode cX11_stuck 42 = .ok (.ishl, 1) := by decide +kernel
theorem dX11_stuck_43 : decode cX11_stuck 43 = .ok (.iconst 1, 1) := by decide +kernel
theorem dX11_stuck_44 : decode cX11_stuck 44 = .ok (.iload_n 3, 1) := by decide +kernel
theorem dX11_stuck_45 : decode cX11_stuck 45 = .ok (.ishl, 1) := by decide +kernel
theorem dX11_stuck_46 : decode cX11_stuck 46 = .ok (.ior, 1) := by decide +kernel
theorem dX11_stuck_47 : decode cX11_stuck 47 = .ok (.istore 4, 2) := by decide +kernel
theorem dX11_stuck_49 : decode cX11_stuck 49 = .ok (.iconst 0, 1) := by decide +kernel
theorem dX11_stuck_50 : decode cX11_stuck 50 = .ok (.istore 5, 2) := by decide +kernel
theorem dX11_stuck_52 : decode cX11_stuck 52 = .ok (.iload 5, 2) := by decide +kernel
theorem dX11_stuck_54 : decode cX11_stuck 54 = .ok (.aload_n 0, 1) := by decide +kernel
theorem dX11_stuck_55 : decode cX11_stuck 55 = .ok (.getfield 39, 3) := by decide +kernel
theorem dX11_stuck_58 : decode cX11_stuck 58 = .ok (.iconst 1, 1) := by decide +kernel
theorem dX11_stuck_59 : decode cX11_stuck 59 = .ok (.iaload, 1) := by decide +kernel
theorem dX11_stuck_60 : decode cX11_stuck 60 = .ok (.if_icmp .ge 43, 3) := by decide +kernel
theorem dX11_stuck_63 : decode cX11_stuck 63 = .ok (.iload 4, 2) := by decide +kernel
theorem dX11_stuck_65 : decode cX11_stuck 65 = .ok (.iload 5, 2) := by decide +kernel
theorem dX11_stuck_67 : decode cX11_stuck 67 = .ok (.invokestatic 297, 3) := by decide +kernel
theorem dX11_stuck_70 : decode cX11_stuck 70 = .ok (.ifCond .ne 27, 3) := by decide +kernel
theorem dX11_stuck_73 : decode cX11_stuck 73 = .ok (.aload_n 0, 1) := by decide +kernel
theorem dX11_stuck_74 : decode cX11_stuck 74 = .ok (.iload_n 2, 1) := by decide +kernel
theorem dX11_stuck_75 : decode cX11_stuck 75 = .ok (.iload_n 3, 1) := by decide +kernel
theorem dX11_stuck_76 : decode cX11_stuck 76 = .ok (.iconst 1, 1) := by decide +kernel
theorem dX11_stuck_77 : decode cX11_stuck 77 = .ok (.iload 5, 2) := by decide +kernel
theorem dX11_stuck_79 : decode cX11_stuck 79 = .ok (.ishl, 1) := by decide +kernel
theorem dX11_stuck_80 : decode cX11_stuck 80 = .ok (.invokevirtual 304, 3) := by decide +kernel
theorem dX11_stuck_83 : decode cX11_stuck 83 = .ok (.bipush 99, 2) := by decide +kernel
theorem dX11_stuck_85 : decode cX11_stuck 85 = .ok (.if_icmp .ne 12, 3) := by decide +kernel
theorem dX11_stuck_88 : decode cX11_stuck 88 = .ok (.iload 4, 2) := by decide +kernel
theorem dX11_stuck_90 : decode cX11_stuck 90 = .ok (.iconst 1, 1) := by decide +kernel
theorem dX11_stuck_91 : decode cX11_stuck 91 = .ok (.iload 5, 2) := by decide +kernel
theorem dX11_stuck_93 : decode cX11_stuck 93 = .ok (.ishl, 1) := by decide +kernel
theorem dX11_stuck_94 : decode cX11_stuck 94 = .ok (.ior, 1) := by decide +kernel
theorem dX11_stuck_95 : decode cX11_stuck 95 = .ok (.istore 4, 2) := by decide +kernel
theorem dX11_stuck_97 : decode cX11_stuck 97 = .ok (.iinc 5 1, 3) := by decide +kernel
theorem dX11_stuck_100 : decode cX11_stuck 100 = .ok (.goto (-48), 3) := by decide +kernel
theorem dX11_stuck_103 : decode cX11_stuck 103 = .ok (.iload 4, 2) := by decide +kernel
theorem dX11_stuck_105 : decode cX11_stuck 105 = .ok (.ireturn, 1) := by decide +kernel
theorem hd_X11_charges : yX11_charges.cls ≠ "java/lang/invoke/MethodHandle" ∧ yX11_charges.cls ≠ "java/lang/invoke/VarHandle" ∧ (parseMethodDescriptor yX11_charges.desc).map (fun d => d.parameters.length) = some 0 := ⟨by decide +kernel, by decide +kernel, by decide +kernel⟩
theorem hd_X11_homeOnes : yX11_homeOnes.cls ≠ "java/lang/invoke/MethodHandle" ∧ yX11_homeOnes.cls ≠ "java/lang/invoke/VarHandle" ∧ (parseMethodDescriptor yX11_homeOnes.desc).map (fun d => d.parameters.length) = some 0 := ⟨by decide +kernel, by decide +kernel, by decide +kernel⟩
theorem hd_X11_laidOnes : yX11_laidOnes.cls ≠ "java/lang/invoke/MethodHandle" ∧ yX11_laidOnes.cls ≠ "java/lang/invoke/VarHandle" ∧ (parseMethodDescriptor yX11_laidOnes.desc).map (fun d => d.parameters.length) = some 0 := ⟨by decide +kernel, by decide +kernel, by decide +kernel⟩
theorem hd_X11_waysTold : yX11_waysTold.cls ≠ "java/lang/invoke/MethodHandle" ∧ yX11_waysTold.cls ≠ "java/lang/invoke/VarHandle" ∧ (parseMethodDescriptor yX11_waysTold.desc).map (fun d => d.parameters.length) = some 1 := ⟨by decide +kernel, by decide +kernel, by decide +kernel⟩
set_option maxHeartbeats 4000000 in
set_option maxRecDepth 100000 in
theorem v_far (l : Launch) (D : va_G) (K : Nat → ClassId) (ad : Nat → Nat) (z : TS) (o : Ok z) (x1 : Int32) : cI l yX11_far cX11_far 2 .int ({ frames := 4, cells := 0, slots := 0, locals := 92 }) D K ad z [.ref (ad 386), .int x1] (fun r u => u = z) := by
  refine t_enterI (by decide) (Nat.le_of_ble_eq_true rfl) rfl rfl ?_
  intro p e s m args below meth c A R Q H locs ls E hfr hlo RET G hl
  have E : mE p s m meth c cX11_far args 2 RX11 D K A := E
  have hl : lv_has ls 2 [(0, .ref (ad 386)), (1, .int x1)] := hl
  refine lv_aload_n E.1 E.2.1 dX11_far_0 rfl (lv_at hl 0 rfl) ?_
  refine lv_iload_n E.1 E.2.1 dX11_far_1 rfl (lv_at hl 1 rfl) ?_
  refine t_vi E G hl (v_isWalker l D K ad z o x1) 11 (rfl : ro 386 = 11) (by decide) rfl rfl 1 rfl mw_code_X11_isWalker mw_ini_11 mw_ml_11_317 mw_inst_X11_isWalker mw_sel_X11_isWalker hd_X11_isWalker ⟨Nat.le_trans (by decide) hfr, Nat.le_trans (by decide) hlo⟩ rfl rfl rfl (Nat.le_of_ble_eq_true rfl) dX11_far_2 (fun r2 zz1 H locs hp3 G => ?_)
  obtain ⟨hz6, b4, h5⟩ := hp3
  rw [hz6] at G
  refine lv_if_eq (tgt := 24) E.1 E.2.1 dX11_far_5 (by decide) (fun c7 => ?_) (fun c7 => ?_)
  · skip
    have b8 : iv 0 0 r2 := iv_eq c7 (iv_lit (lo := 0) (hi := 0) 0 (by decide) (by decide))
    refine lv_iconst (v := (-1)) E.1 E.2.1 dX11_far_24 (by decide) ?_
    exact RET G rfl rfl dX11_far_25
  · skip
    have b9 : iv 1 1 r2 := ne_lo c7 b4 (by decide) (by decide)
    have b10 : iv 0 4 x1 := h5 c7
    refine lv_aload_n E.1 E.2.1 dX11_far_8 rfl (lv_at hl 0 rfl) ?_
    refine lv_iload_n E.1 E.2.1 dX11_far_9 rfl (lv_at hl 1 rfl) ?_
    refine lv_aload_n E.1 E.2.1 dX11_far_10 rfl (lv_at hl 0 rfl) ?_
    refine lv_iload_n E.1 E.2.1 dX11_far_11 rfl (lv_at hl 1 rfl) ?_
    refine t_vi E G hl (v_cornerOf l D K ad z o x1 (iv_mono b10 (by decide) (by decide))) 11 (rfl : ro 386 = 11) (by decide) rfl rfl 1 rfl mw_code_X11_cornerOf mw_ini_11 mw_ml_11_291 mw_inst_X11_cornerOf mw_sel_X11_cornerOf hd_X11_cornerOf ⟨Nat.le_trans (by decide) hfr, Nat.le_trans (by decide) hlo⟩ rfl rfl rfl (Nat.le_of_ble_eq_true rfl) dX11_far_12 (fun r12 zz11 H locs hp13 G => ?_)
    obtain ⟨hz15, b14⟩ := hp13
    rw [hz15] at G
    refine t_vi E G hl (v_homeFrom l D K ad z o x1 (iv_mono b10 (by decide) (by decide)) r12) 11 (rfl : ro 386 = 11) (by decide) rfl rfl 2 rfl mw_code_X11_homeFrom mw_ini_11 mw_ml_11_333 mw_inst_X11_homeFrom mw_sel_X11_homeFrom hd_X11_homeFrom ⟨Nat.le_trans (by decide) hfr, Nat.le_trans (by decide) hlo⟩ rfl rfl rfl (Nat.le_of_ble_eq_true rfl) dX11_far_15 (fun r17 zz16 H locs hp18 G => ?_)
    obtain ⟨hz20, b19⟩ := hp18
    rw [hz20] at G
    refine t_si E G hl (v_waysTold l D K ad z o r17) 1 rfl mw_code_X11_waysTold mw_ini_11 mw_ml_11_388 mw_stat_X11_waysTold hd_X11_waysTold ⟨Nat.le_trans (by decide) hfr, Nat.le_trans (by decide) hlo⟩ rfl rfl rfl (Nat.le_of_ble_eq_true rfl) dX11_far_18 (fun r22 zz21 H locs hp23 G => ?_)
    have hz24 := hp23
    rw [hz24] at G
    refine lv_goto (tgt := 25) E.1 E.2.1 dX11_far_21 (by decide) ?_
    exact RET G rfl rfl dX11_far_25
set_option maxHeartbeats 4000000 in
set_option maxRecDepth 100000 in
theorem v_illCorners (l : Launch) (D : va_G) (K : Nat → ClassId) (ad : Nat → Nat) (z : TS) (o : Ok z) (x1 : Int32) (bx1 : iv 0 4 x1) : cI l yX11_illCorners cX11_illCorners 4 .int ({ frames := 2, cells := 0, slots := 0, locals := 43 }) D K ad z [.ref (ad 386), .int x1] (fun r u => u = z) := by
  refine t_enterI (by decide) (Nat.le_of_ble_eq_true rfl) rfl rfl ?_
  intro p e s m args below meth c A R Q H locs ls E hfr hlo RET G hl
  have E : mE p s m meth c cX11_illCorners args 4 RX11 D K A := E
  have hl : lv_has ls 4 [(0, .ref (ad 386)), (1, .int x1)] := hl
  refine lv_iconst (v := 0) E.1 E.2.1 dX11_illCorners_0 (by decide) ?_
  refine lv_istore_n (lv' := [(2, .int 0), (0, .ref (ad 386)), (1, .int x1)]) E.1 E.2.1 dX11_illCorners_1 rfl hl (by decide) rfl (fun ls hl => ?_)
  refine lv_iconst (v := 0) E.1 E.2.1 dX11_illCorners_2 (by decide) ?_
  refine lv_istore_n (lv' := [(3, .int 0), (2, .int 0), (0, .ref (ad 386)), (1, .int x1)]) E.1 E.2.1 dX11_illCorners_3 rfl hl (by decide) rfl (fun ls hl => ?_)
  have LOOP4 : ∀ n : Nat, ∀ (y1 : Int32) (y2 : Int32) (H : Heap) (locs : List Loc) (ls : Array Slot), mG D A s H locs (wd K ad z) → iv 0 6 y1 → 6 < y1.toInt + (n : Int) → lv_has ls 4 [(3, .int y1), (2, .int y2), (0, .ref (ad 386)), (1, .int x1)] → W p l e R s m args below meth c H locs 0 0 Q (F0 m 4 ls []) := by
    intro n
    induction n with
    | zero =>
      intro y1 y2 H locs ls G b7 m6 hl
      exact absurd m6 (by have := b7.1; have := b7.2; omega)
    | succ n ih4 =>
      intro y1 y2 H locs ls G b7 m6 hl
      refine lv_iload_n E.1 E.2.1 dX11_illCorners_4 rfl (lv_at hl 0 rfl) ?_
      refine lv_aload_n E.1 E.2.1 dX11_illCorners_5 rfl (lv_at hl 2 rfl) ?_
      refine t_get E G 11 20 (rfl : ro 386 = 11) (C := RX11) (T := TX11) (N := 37) rfl (by decide) (by decide) (by decide) mw_fl_11_39 (v := .ref (ad 396)) (fvl_o (n := 10) rfl) dX11_illCorners_6 ?_
      refine lv_iconst (v := 3) E.1 E.2.1 dX11_illCorners_9 (by decide) ?_
      refine t_iald E G 54 (rfl : ro 396 = 54) (by decide) (by decide) rfl (n := 127) rfl (by unfold vp_in; decide) dX11_illCorners_10 ?_
      refine lv_topi (fun v8 e9 => ?_)
      have b10 : iv 0 6 v8 := by rw [e9]; exact iv_mono (o.a 54 (rfl : ro 396 = 54) _) (by decide +kernel) (by decide +kernel)
      refine lv_icmp_ge (tgt := 51) E.1 E.2.1 dX11_illCorners_11 (by decide) (fun c11 => ?_) (fun c11 => ?_)
      · skip
        refine lv_iload_n E.1 E.2.1 dX11_illCorners_51 rfl (lv_at hl 1 rfl) ?_
        exact RET G rfl rfl dX11_illCorners_52
      · skip
        have b12 : iv 0 5 y1 := lt_l (Int32.not_le.mp c11) b7 b10 (by decide)
        have b13 : iv 1 6 v8 := lt_r (Int32.not_le.mp c11) b7 b10 (by decide)
        refine lv_iload_n E.1 E.2.1 dX11_illCorners_14 rfl (lv_at hl 1 rfl) ?_
        refine lv_aload_n E.1 E.2.1 dX11_illCorners_15 rfl (lv_at hl 2 rfl) ?_
        refine lv_iload_n E.1 E.2.1 dX11_illCorners_16 rfl (lv_at hl 0 rfl) ?_
        refine t_vi E G hl (v_isLaid l D K ad z o y1) 11 (rfl : ro 386 = 11) (by decide) rfl rfl 1 rfl mw_code_X11_isLaid mw_ini_11 mw_ml_11_288 mw_inst_X11_isLaid mw_sel_X11_isLaid hd_X11_isLaid ⟨Nat.le_trans (by decide) hfr, Nat.le_trans (by decide) hlo⟩ rfl rfl rfl (Nat.le_of_ble_eq_true rfl) dX11_illCorners_17 (fun r15 zz14 H locs hp16 G => ?_)
        obtain ⟨hz19, b17, h18⟩ := hp16
        rw [hz19] at G
        refine lv_if_eq (tgt := 42) E.1 E.2.1 dX11_illCorners_20 (by decide) (fun c20 => ?_) (fun c20 => ?_)
        · skip
          have b21 : iv 0 0 r15 := iv_eq c20 (iv_lit (lo := 0) (hi := 0) 0 (by decide) (by decide))
          refine lv_iconst (v := 0) E.1 E.2.1 dX11_illCorners_42 (by decide) ?_
          refine lv_ior E.1 E.2.1 dX11_illCorners_43 ?_
          refine lv_topi (fun v22 e23 => ?_)
          refine lv_istore_n (lv' := [(2, .int v22), (3, .int y1), (0, .ref (ad 386)), (1, .int x1)]) E.1 E.2.1 dX11_illCorners_44 rfl hl (by decide) rfl (fun ls hl => ?_)
          obtain ⟨v24, e25⟩ : ∃ w : Int32, w = y1 + (1 : Int32) := ⟨_, rfl⟩
          refine lv_iinc (v := v24) (lv' := [(3, .int v24), (2, .int v22), (0, .ref (ad 386)), (1, .int x1)]) E.1 E.2.1 dX11_illCorners_45 hl (k := 1) rfl (by rw [e25]; rfl) (by decide) rfl (fun ls hl => ?_)
          have b26 : iv 1 6 v24 := by rw [e25]; exact iv_add b12 (iv_lit (lo := 1) (hi := 1) 1 (by decide) (by decide)) (by decide) (by decide) (by decide) (by decide)
          have t27 : v24.toInt = y1.toInt + 1 := by rw [e25]; exact ti_addc 1 (by decide) b12 (by decide) (by decide)
          refine lv_goto (tgt := 4) E.1 E.2.1 dX11_illCorners_48 (by decide) ?_
          exact ih4 v24 v22 H locs ls G (iv_mono b26 (by decide) (by decide)) (by have := t27; have := m6; omega) (lv_sub hl [0, 1, 2, 3] rfl)
        · skip
          have b28 : iv 1 1 r15 := ne_lo c20 b17 (by decide) (by decide)
          refine lv_aload_n E.1 E.2.1 dX11_illCorners_23 rfl (lv_at hl 2 rfl) ?_
          refine lv_iload_n E.1 E.2.1 dX11_illCorners_24 rfl (lv_at hl 0 rfl) ?_
          refine lv_iload_n E.1 E.2.1 dX11_illCorners_25 rfl (lv_at hl 3 rfl) ?_
          refine t_vi E G hl (v_wouldHave l D K ad z o y1 (iv_mono b12 (by decide) (by decide)) x1 (iv_mono bx1 (by decide) (by decide))) 11 (rfl : ro 386 = 11) (by decide) rfl rfl 2 rfl mw_code_X11_wouldHave mw_ini_11 mw_ml_11_330 mw_inst_X11_wouldHave mw_sel_X11_wouldHave hd_X11_wouldHave ⟨Nat.le_trans (by decide) hfr, Nat.le_trans (by decide) hlo⟩ rfl rfl rfl (Nat.le_of_ble_eq_true rfl) dX11_illCorners_26 (fun r30 zz29 H locs hp31 G => ?_)
          obtain ⟨hz33, b32⟩ := hp31
          rw [hz33] at G
          refine lv_if_eq (tgt := 42) E.1 E.2.1 dX11_illCorners_29 (by decide) (fun c34 => ?_) (fun c34 => ?_)
          · skip
            have b35 : iv 0 0 r30 := iv_eq c34 (iv_lit (lo := 0) (hi := 0) 0 (by decide) (by decide))
            refine lv_iconst (v := 0) E.1 E.2.1 dX11_illCorners_42 (by decide) ?_
            refine lv_ior E.1 E.2.1 dX11_illCorners_43 ?_
            refine lv_topi (fun v36 e37 => ?_)
            refine lv_istore_n (lv' := [(2, .int v36), (3, .int y1), (0, .ref (ad 386)), (1, .int x1)]) E.1 E.2.1 dX11_illCorners_44 rfl hl (by decide) rfl (fun ls hl => ?_)
            obtain ⟨v38, e39⟩ : ∃ w : Int32, w = y1 + (1 : Int32) := ⟨_, rfl⟩
            refine lv_iinc (v := v38) (lv' := [(3, .int v38), (2, .int v36), (0, .ref (ad 386)), (1, .int x1)]) E.1 E.2.1 dX11_illCorners_45 hl (k := 1) rfl (by rw [e39]; rfl) (by decide) rfl (fun ls hl => ?_)
            have b40 : iv 1 6 v38 := by rw [e39]; exact iv_add b12 (iv_lit (lo := 1) (hi := 1) 1 (by decide) (by decide)) (by decide) (by decide) (by decide) (by decide)
            have t41 : v38.toInt = y1.toInt + 1 := by rw [e39]; exact ti_addc 1 (by decide) b12 (by decide) (by decide)
            refine lv_goto (tgt := 4) E.1 E.2.1 dX11_illCorners_48 (by decide) ?_
            exact ih4 v38 v36 H locs ls G (iv_mono b40 (by decide) (by decide)) (by have := t41; have := m6; omega) (lv_sub hl [0, 1, 2, 3] rfl)
          · skip
            have b42 : iv 1 1 r30 := ne_lo c34 b32 (by decide) (by decide)
            refine lv_iconst (v := 1) E.1 E.2.1 dX11_illCorners_32 (by decide) ?_
            refine lv_aload_n E.1 E.2.1 dX11_illCorners_33 rfl (lv_at hl 2 rfl) ?_
            refine lv_iload_n E.1 E.2.1 dX11_illCorners_34 rfl (lv_at hl 0 rfl) ?_
            refine t_vi E G hl (v_lureAt l D K ad z o y1 (iv_mono b12 (by decide) (by decide))) 11 (rfl : ro 386 = 11) (by decide) rfl rfl 1 rfl mw_code_X11_lureAt mw_ini_11 mw_ml_11_311 mw_inst_X11_lureAt mw_sel_X11_lureAt hd_X11_lureAt ⟨Nat.le_trans (by decide) hfr, Nat.le_trans (by decide) hlo⟩ rfl rfl rfl (Nat.le_of_ble_eq_true rfl) dX11_illCorners_35 (fun r44 zz43 H locs hp45 G => ?_)
            have hz46 := hp45
            rw [hz46] at G
            refine lv_ishl E.1 E.2.1 dX11_illCorners_38 ?_
            refine lv_topi (fun v47 e48 => ?_)
            refine lv_goto (tgt := 43) E.1 E.2.1 dX11_illCorners_39 (by decide) ?_
            refine lv_ior E.1 E.2.1 dX11_illCorners_43 ?_
            refine lv_topi (fun v49 e50 => ?_)
            refine lv_istore_n (lv' := [(2, .int v49), (3, .int y1), (0, .ref (ad 386)), (1, .int x1)]) E.1 E.2.1 dX11_illCorners_44 rfl hl (by decide) rfl (fun ls hl => ?_)
            obtain ⟨v51, e52⟩ : ∃ w : Int32, w = y1 + (1 : Int32) := ⟨_, rfl⟩
            refine lv_iinc (v := v51) (lv' := [(3, .int v51), (2, .int v49), (0, .ref (ad 386)), (1, .int x1)]) E.1 E.2.1 dX11_illCorners_45 hl (k := 1) rfl (by rw [e52]; rfl) (by decide) rfl (fun ls hl => ?_)
            have b53 : iv 1 6 v51 := by rw [e52]; exact iv_add b12 (iv_lit (lo := 1) (hi := 1) 1 (by decide) (by decide)) (by decide) (by decide) (by decide) (by decide)
            have t54 : v51.toInt = y1.toInt + 1 := by rw [e52]; exact ti_addc 1 (by decide) b12 (by decide) (by decide)
            refine lv_goto (tgt := 4) E.1 E.2.1 dX11_illCorners_48 (by decide) ?_
            exact ih4 v51 v49 H locs ls G (iv_mono b53 (by decide) (by decide)) (by have := t54; have := m6; omega) (lv_sub hl [0, 1, 2, 3] rfl)
  exact LOOP4 7 0 0 H locs ls G (iv_mono (iv_lit (lo := 0) (hi := 0) 0 (by decide) (by decide)) (by decide) (by decide)) (by have := (iv_lit (lo := 0) (hi := 0) 0 (by decide) (by decide)).1; omega) (lv_sub hl [0, 1, 2, 3] rfl)
set_option maxHeartbeats 4000000 in
set_option maxRecDepth 100000 in
theorem v_stuck (l : Launch) (D : va_G) (K : Nat → ClassId) (ad : Nat → Nat) (z : TS) (o : Ok z) (x1 : Int32) : cI l yX11_stuck cX11_stuck 6 .int ({ frames := 3, cells := 0, slots := 0, locals := 70 }) D K ad z [.ref (ad 386), .int x1] (fun r u => u = z) := by
  refine t_enterI (by decide) (Nat.le_of_ble_eq_true rfl) rfl rfl ?_
  intro p e s m args below meth c A R Q H locs ls E hfr hlo RET G hl
  have E : mE p s m meth c cX11_stuck args 6 RX11 D K A := E
  have hl : lv_has ls 6 [(0, .ref (ad 386)), (1, .int x1)] := hl
  refine lv_aload_n E.1 E.2.1 dX11_stuck_0 rfl (lv_at hl 0 rfl) ?_
  refine lv_iload_n E.1 E.2.1 dX11_stuck_1 rfl (lv_at hl 1 rfl) ?_
  refine t_vi E G hl (v_isWalker l D K ad z o x1) 11 (rfl : ro 386 = 11) (by decide) rfl rfl 1 rfl mw_code_X11_isWalker mw_ini_11 mw_ml_11_317 mw_inst_X11_isWalker mw_sel_X11_isWalker hd_X11_isWalker ⟨Nat.le_trans (by decide) hfr, Nat.le_trans (by decide) hlo⟩ rfl rfl rfl (Nat.le_of_ble_eq_true rfl) dX11_stuck_2 (fun r2 zz1 H locs hp3 G => ?_)
  obtain ⟨hz6, b4, h5⟩ := hp3
  rw [hz6] at G
  refine lv_if_ne (tgt := 10) E.1 E.2.1 dX11_stuck_5 (by decide) (fun c7 => ?_) (fun c7 => ?_)
  · skip
    have b8 : iv 1 1 r2 := ne_lo c7 b4 (by decide) (by decide)
    have b9 : iv 0 4 x1 := h5 c7
    refine lv_aload_n E.1 E.2.1 dX11_stuck_10 rfl (lv_at hl 0 rfl) ?_
    refine lv_iload_n E.1 E.2.1 dX11_stuck_11 rfl (lv_at hl 1 rfl) ?_
    refine t_vi E G hl (v_cornerOf l D K ad z o x1 (iv_mono b9 (by decide) (by decide))) 11 (rfl : ro 386 = 11) (by decide) rfl rfl 1 rfl mw_code_X11_cornerOf mw_ini_11 mw_ml_11_291 mw_inst_X11_cornerOf mw_sel_X11_cornerOf hd_X11_cornerOf ⟨Nat.le_trans (by decide) hfr, Nat.le_trans (by decide) hlo⟩ rfl rfl rfl (Nat.le_of_ble_eq_true rfl) dX11_stuck_12 (fun r11 zz10 H locs hp12 G => ?_)
    obtain ⟨hz14, b13⟩ := hp12
    rw [hz14] at G
    refine lv_istore_n (lv' := [(2, .int r11), (0, .ref (ad 386)), (1, .int x1)]) E.1 E.2.1 dX11_stuck_15 rfl hl (by decide) rfl (fun ls hl => ?_)
    refine lv_aload_n E.1 E.2.1 dX11_stuck_16 rfl (lv_at hl 1 rfl) ?_
    refine t_get E G 11 20 (rfl : ro 386 = 11) (C := RX11) (T := TX11) (N := 37) rfl (by decide) (by decide) (by decide) mw_fl_11_39 (v := .ref (ad 396)) (fvl_o (n := 10) rfl) dX11_stuck_17 ?_
    refine lv_bipush (v := 56) E.1 E.2.1 dX11_stuck_20 (by decide) ?_
    refine lv_iload_n E.1 E.2.1 dX11_stuck_22 rfl (lv_at hl 2 rfl) ?_
    refine lv_iadd E.1 E.2.1 dX11_stuck_23 ?_
    refine lv_topi (fun v15 e16 => ?_)
    have b17 : iv 56 60 v15 := by rw [e16]; exact iv_add (iv_lit (lo := 56) (hi := 56) 56 (by decide) (by decide)) b9 (by decide) (by decide) (by decide) (by decide)
    have l18 : v15.toInt = 56 + 1 * x1.toInt := (show v15.toInt = 56 + x1.toInt by rw [e16]; exact ti_cadd 56 (by decide) b9 (by decide) (by decide)).trans (by omega)
    refine t_iald E G 54 (rfl : ro 396 = 54) (by decide) (by decide) rfl (n := 127) rfl (iv_vp b17 (by decide) (by decide)) dX11_stuck_24 ?_
    refine lv_topi (fun v19 e20 => ?_)
    have b21 : iv 0 7 v19 := by rw [e20]; exact rd1 o 54 (rfl : ro 396 = 54) 56 1 0 4 b9 (l18.trans (by omega)) (by decide +kernel)
    refine lv_istore_n (lv' := [(3, .int v19), (2, .int r11), (0, .ref (ad 386)), (1, .int x1)]) E.1 E.2.1 dX11_stuck_25 rfl hl (by decide) rfl (fun ls hl => ?_)
    refine lv_aload_n E.1 E.2.1 dX11_stuck_26 rfl (lv_at hl 2 rfl) ?_
    refine lv_iload_n E.1 E.2.1 dX11_stuck_27 rfl (lv_at hl 1 rfl) ?_
    refine lv_iload_n E.1 E.2.1 dX11_stuck_28 rfl (lv_at hl 0 rfl) ?_
    refine lv_iconst (v := 0) E.1 E.2.1 dX11_stuck_29 (by decide) ?_
    refine t_vi E G hl (v_waysBut l D K ad z o r11 v19 (0 : Int32)) 11 (rfl : ro 386 = 11) (by decide) rfl rfl 3 rfl mw_code_X11_waysBut mw_ini_11 mw_ml_11_304 mw_inst_X11_waysBut mw_sel_X11_waysBut hd_X11_waysBut ⟨Nat.le_trans (by decide) hfr, Nat.le_trans (by decide) hlo⟩ rfl rfl rfl (Nat.le_of_ble_eq_true rfl) dX11_stuck_30 (fun r23 zz22 H locs hp24 G => ?_)
    obtain ⟨hz26, b25⟩ := hp24
    rw [hz26] at G
    refine lv_bipush (v := 99) E.1 E.2.1 dX11_stuck_33 (by decide) ?_
    refine lv_icmp_ne (tgt := 40) E.1 E.2.1 dX11_stuck_35 (by decide) (fun c27 => ?_) (fun c27 => ?_)
    · skip
      have b28 : iv 0 98 r23 := ne_hi c27 b25 (by decide) (by decide)
      refine lv_iconst (v := 1) E.1 E.2.1 dX11_stuck_40 (by decide) ?_
      refine lv_iload_n E.1 E.2.1 dX11_stuck_41 rfl (lv_at hl 1 rfl) ?_
      refine lv_ishl E.1 E.2.1 dX11_stuck_42 ?_
      refine lv_topi (fun v29 e30 => ?_)
      have b31 : iv 1 256 v29 := by rw [e30]; exact iv_shl8 (iv_mono b13 (by decide) (by decide))
      refine lv_iconst (v := 1) E.1 E.2.1 dX11_stuck_43 (by decide) ?_
      refine lv_iload_n E.1 E.2.1 dX11_stuck_44 rfl (lv_at hl 0 rfl) ?_
      refine lv_ishl E.1 E.2.1 dX11_stuck_45 ?_
      refine lv_topi (fun v32 e33 => ?_)
      have b34 : iv 1 256 v32 := by rw [e33]; exact iv_shl8 (iv_mono b21 (by decide) (by decide))
      refine lv_ior E.1 E.2.1 dX11_stuck_46 ?_
      refine lv_topi (fun v35 e36 => ?_)
      refine lv_istore (lv' := [(4, .int v35), (3, .int v19), (2, .int r11), (0, .ref (ad 386)), (1, .int x1)]) E.1 E.2.1 dX11_stuck_47 hl (by decide) rfl (fun ls hl => ?_)
      refine lv_iconst (v := 0) E.1 E.2.1 dX11_stuck_49 (by decide) ?_
      refine lv_istore (lv' := [(5, .int 0), (4, .int v35), (3, .int v19), (2, .int r11), (0, .ref (ad 386)), (1, .int x1)]) E.1 E.2.1 dX11_stuck_50 hl (by decide) rfl (fun ls hl => ?_)
      have LOOP52 : ∀ n : Nat, ∀ (y37 : Int32) (y38 : Int32) (H : Heap) (locs : List Loc) (ls : Array Slot), mG D A s H locs (wd K ad z) → iv 0 8 y37 → 8 < y37.toInt + (n : Int) → lv_has ls 6 [(5, .int y37), (4, .int y38), (3, .int v19), (2, .int r11), (0, .ref (ad 386)), (1, .int x1)] → W p l e R s m args below meth c H locs 0 0 Q (F0 m 52 ls []) := by
        intro n
        induction n with
        | zero =>
          intro y37 y38 H locs ls G b43 m42 hl
          exact absurd m42 (by have := b43.1; have := b43.2; omega)
        | succ n ih52 =>
          intro y37 y38 H locs ls G b43 m42 hl
          refine lv_iload E.1 E.2.1 dX11_stuck_52 (lv_at hl 0 rfl) ?_
          refine lv_aload_n E.1 E.2.1 dX11_stuck_54 rfl (lv_at hl 4 rfl) ?_
          refine t_get E G 11 20 (rfl : ro 386 = 11) (C := RX11) (T := TX11) (N := 37) rfl (by decide) (by decide) (by decide) mw_fl_11_39 (v := .ref (ad 396)) (fvl_o (n := 10) rfl) dX11_stuck_55 ?_
          refine lv_iconst (v := 1) E.1 E.2.1 dX11_stuck_58 (by decide) ?_
          refine t_iald E G 54 (rfl : ro 396 = 54) (by decide) (by decide) rfl (n := 127) rfl (by unfold vp_in; decide) dX11_stuck_59 ?_
          refine lv_topi (fun v44 e45 => ?_)
          have b46 : iv 0 8 v44 := by rw [e45]; exact iv_mono (o.a 54 (rfl : ro 396 = 54) _) (by decide +kernel) (by decide +kernel)
          refine lv_icmp_ge (tgt := 103) E.1 E.2.1 dX11_stuck_60 (by decide) (fun c47 => ?_) (fun c47 => ?_)
          · skip
            refine lv_iload E.1 E.2.1 dX11_stuck_103 (lv_at hl 1 rfl) ?_
            exact RET G rfl rfl dX11_stuck_105
          · skip
            have b48 : iv 0 7 y37 := lt_l (Int32.not_le.mp c47) b43 b46 (by decide)
            have b49 : iv 1 8 v44 := lt_r (Int32.not_le.mp c47) b43 b46 (by decide)
            refine lv_iload E.1 E.2.1 dX11_stuck_63 (lv_at hl 1 rfl) ?_
            refine lv_iload E.1 E.2.1 dX11_stuck_65 (lv_at hl 0 rfl) ?_
            refine t_si E G hl (v_isOf l D K ad z o y38 y37) 2 rfl mw_code_X11_isOf mw_ini_11 mw_ml_11_297 mw_stat_X11_isOf hd_X11_isOf ⟨Nat.le_trans (by decide) hfr, Nat.le_trans (by decide) hlo⟩ rfl rfl rfl (Nat.le_of_ble_eq_true rfl) dX11_stuck_67 (fun r51 zz50 H locs hp52 G => ?_)
            obtain ⟨hz54, b53⟩ := hp52
            rw [hz54] at G
            refine lv_if_ne (tgt := 97) E.1 E.2.1 dX11_stuck_70 (by decide) (fun c55 => ?_) (fun c55 => ?_)
            · skip
              have b56 : iv 1 1 r51 := ne_lo c55 b53 (by decide) (by decide)
              obtain ⟨v57, e58⟩ : ∃ w : Int32, w = y37 + (1 : Int32) := ⟨_, rfl⟩
              refine lv_iinc (v := v57) (lv' := [(5, .int v57), (4, .int y38), (3, .int v19), (2, .int r11), (0, .ref (ad 386)), (1, .int x1)]) E.1 E.2.1 dX11_stuck_97 hl (k := 0) rfl (by rw [e58]; rfl) (by decide) rfl (fun ls hl => ?_)
              have b59 : iv 1 8 v57 := by rw [e58]; exact iv_add b48 (iv_lit (lo := 1) (hi := 1) 1 (by decide) (by decide)) (by decide) (by decide) (by decide) (by decide)
              have t60 : v57.toInt = y37.toInt + 1 := by rw [e58]; exact ti_addc 1 (by decide) b48 (by decide) (by decide)
              refine lv_goto (tgt := 52) E.1 E.2.1 dX11_stuck_100 (by decide) ?_
              exact ih52 v57 y38 H locs ls G (iv_mono b59 (by decide) (by decide)) (by have := t60; have := m42; omega) (lv_sub hl [0, 1, 2, 3, 4, 5] rfl)
            · skip
              have b61 : iv 0 0 r51 := iv_eq c55 (iv_lit (lo := 0) (hi := 0) 0 (by decide) (by decide))
              refine lv_aload_n E.1 E.2.1 dX11_stuck_73 rfl (lv_at hl 4 rfl) ?_
              refine lv_iload_n E.1 E.2.1 dX11_stuck_74 rfl (lv_at hl 3 rfl) ?_
              refine lv_iload_n E.1 E.2.1 dX11_stuck_75 rfl (lv_at hl 2 rfl) ?_
              refine lv_iconst (v := 1) E.1 E.2.1 dX11_stuck_76 (by decide) ?_
              refine lv_iload E.1 E.2.1 dX11_stuck_77 (lv_at hl 0 rfl) ?_
              refine lv_ishl E.1 E.2.1 dX11_stuck_79 ?_
              refine lv_topi (fun v62 e63 => ?_)
              have b64 : iv 1 256 v62 := by rw [e63]; exact iv_shl8 (iv_mono b48 (by decide) (by decide))
              refine t_vi E G hl (v_waysBut l D K ad z o r11 v19 v62) 11 (rfl : ro 386 = 11) (by decide) rfl rfl 3 rfl mw_code_X11_waysBut mw_ini_11 mw_ml_11_304 mw_inst_X11_waysBut mw_sel_X11_waysBut hd_X11_waysBut ⟨Nat.le_trans (by decide) hfr, Nat.le_trans (by decide) hlo⟩ rfl rfl rfl (Nat.le_of_ble_eq_true rfl) dX11_stuck_80 (fun r66 zz65 H locs hp67 G => ?_)
              obtain ⟨hz69, b68⟩ := hp67
              rw [hz69] at G
              refine lv_bipush (v := 99) E.1 E.2.1 dX11_stuck_83 (by decide) ?_
              refine lv_icmp_ne (tgt := 97) E.1 E.2.1 dX11_stuck_85 (by decide) (fun c70 => ?_) (fun c70 => ?_)
              · skip
                have b71 : iv 0 98 r66 := ne_hi c70 b68 (by decide) (by decide)
                obtain ⟨v72, e73⟩ : ∃ w : Int32, w = y37 + (1 : Int32) := ⟨_, rfl⟩
                refine lv_iinc (v := v72) (lv' := [(5, .int v72), (4, .int y38), (3, .int v19), (2, .int r11), (0, .ref (ad 386)), (1, .int x1)]) E.1 E.2.1 dX11_stuck_97 hl (k := 0) rfl (by rw [e73]; rfl) (by decide) rfl (fun ls hl => ?_)
                have b74 : iv 1 8 v72 := by rw [e73]; exact iv_add b48 (iv_lit (lo := 1) (hi := 1) 1 (by decide) (by decide)) (by decide) (by decide) (by decide) (by decide)
                have t75 : v72.toInt = y37.toInt + 1 := by rw [e73]; exact ti_addc 1 (by decide) b48 (by decide) (by decide)
                refine lv_goto (tgt := 52) E.1 E.2.1 dX11_stuck_100 (by decide) ?_
                exact ih52 v72 y38 H locs ls G (iv_mono b74 (by decide) (by decide)) (by have := t75; have := m42; omega) (lv_sub hl [0, 1, 2, 3, 4, 5] rfl)
              · skip
                have b76 : iv 99 99 r66 := iv_eq c70 (iv_lit (lo := 99) (hi := 99) 99 (by decide) (by decide))
                refine lv_iload E.1 E.2.1 dX11_stuck_88 (lv_at hl 1 rfl) ?_
                refine lv_iconst (v := 1) E.1 E.2.1 dX11_stuck_90 (by decide) ?_
                refine lv_iload E.1 E.2.1 dX11_stuck_91 (lv_at hl 0 rfl) ?_
                refine lv_ishl E.1 E.2.1 dX11_stuck_93 ?_
                refine lv_topi (fun v77 e78 => ?_)
                have b79 : iv 1 256 v77 := by rw [e78]; exact iv_shl8 (iv_mono b48 (by decide) (by decide))
                refine lv_ior E.1 E.2.1 dX11_stuck_94 ?_
                refine lv_topi (fun v80 e81 => ?_)
                refine lv_istore (lv' := [(4, .int v80), (5, .int y37), (3, .int v19), (2, .int r11), (0, .ref (ad 386)), (1, .int x1)]) E.1 E.2.1 dX11_stuck_95 hl (by decide) rfl (fun ls hl => ?_)
                obtain ⟨v82, e83⟩ : ∃ w : Int32, w = y37 + (1 : Int32) := ⟨_, rfl⟩
                refine lv_iinc (v := v82) (lv' := [(5, .int v82), (4, .int v80), (3, .int v19), (2, .int r11), (0, .ref (ad 386)), (1, .int x1)]) E.1 E.2.1 dX11_stuck_97 hl (k := 1) rfl (by rw [e83]; rfl) (by decide) rfl (fun ls hl => ?_)
                have b84 : iv 1 8 v82 := by rw [e83]; exact iv_add b48 (iv_lit (lo := 1) (hi := 1) 1 (by decide) (by decide)) (by decide) (by decide) (by decide) (by decide)
                have t85 : v82.toInt = y37.toInt + 1 := by rw [e83]; exact ti_addc 1 (by decide) b48 (by decide) (by decide)
                refine lv_goto (tgt := 52) E.1 E.2.1 dX11_stuck_100 (by decide) ?_
                exact ih52 v82 v80 H locs ls G (iv_mono b84 (by decide) (by decide)) (by have := t85; have := m42; omega) (lv_sub hl [0, 1, 2, 3, 4, 5] rfl)
      exact LOOP52 9 0 v35 H locs ls G (iv_mono (iv_lit (lo := 0) (hi := 0) 0 (by decide) (by decide)) (by decide) (by decide)) (by have := (iv_lit (lo := 0) (hi := 0) 0 (by decide) (by decide)).1; omega) (lv_sub hl [0, 1, 2, 3, 4, 5] rfl)
    · skip
      have b86 : iv 99 99 r23 := iv_eq c27 (iv_lit (lo := 99) (hi := 99) 99 (by decide) (by decide))
      refine lv_iconst (v := 0) E.1 E.2.1 dX11_stuck_38 (by decide) ?_
      exact RET G rfl rfl dX11_stuck_39
  · skip
    have b87 : iv 0 0 r2 := iv_eq c7 (iv_lit (lo := 0) (hi := 0) 0 (by decide) (by decide))
    refine lv_iconst (v := (-1)) E.1 E.2.1 dX11_stuck_8 (by decide) ?_
    exact RET G rfl rfl dX11_stuck_9
set_option maxHeartbeats 4000000 in
set_option maxRecDepth 100000 in
theorem v_covers (l : Launch) (D : va_G) (K : Nat → ClassId) (ad : Nat → Nat) (z : TS) (o : Ok z) (x1 : Int32) : cI l yX11_covers cX11_covers 3 .boolean ({ frames := 1, cells := 0, slots := 0, locals := 21 }) D K ad z [.ref (ad 386), .int x1] (fun r u => u = z ∧ iv 0 1 r) := by
  refine t_enterI (by decide) (Nat.le_of_ble_eq_true rfl) rfl rfl ?_
  intro p e s m args below meth c A R Q H locs ls E hfr hlo RET G hl
  have E : mE p s m meth c cX11_covers args 3 RX11 D K A := E
  have hl : lv_has ls 3 [(0, .ref (ad 386)), (1, .int x1)] := hl
  refine lv_iconst (v := 0) E.1 E.2.1 dX11_covers_0 (by decide) ?_
  refine lv_istore_n (lv' := [(2, .int 0), (0, .ref (ad 386)), (1, .int x1)]) E.1 E.2.1 dX11_covers_1 rfl hl (by decide) rfl (fun ls hl => ?_)
  have LOOP2 : ∀ n : Nat, ∀ (y1 : Int32) (H : Heap) (locs : List Loc) (ls : Array Slot), mG D A s H locs (wd K ad z) → iv 0 8 y1 → 8 < y1.toInt + (n : Int) → lv_has ls 3 [(2, .int y1), (0, .ref (ad 386)), (1, .int x1)] → W p l e R s m args below meth c H locs 0 0 Q (F0 m 2 ls []) := by
    intro n
    induction n with
    | zero =>
      intro y1 H locs ls G b6 m5 hl
      exact absurd m5 (by have := b6.1; have := b6.2; omega)
    | succ n ih2 =>
      intro y1 H locs ls G b6 m5 hl
      refine lv_iload_n E.1 E.2.1 dX11_covers_2 rfl (lv_at hl 0 rfl) ?_
      refine lv_aload_n E.1 E.2.1 dX11_covers_3 rfl (lv_at hl 1 rfl) ?_
      refine t_get E G 11 20 (rfl : ro 386 = 11) (C := RX11) (T := TX11) (N := 37) rfl (by decide) (by decide) (by decide) mw_fl_11_39 (v := .ref (ad 396)) (fvl_o (n := 10) rfl) dX11_covers_4 ?_
      refine lv_iconst (v := 1) E.1 E.2.1 dX11_covers_7 (by decide) ?_
      refine t_iald E G 54 (rfl : ro 396 = 54) (by decide) (by decide) rfl (n := 127) rfl (by unfold vp_in; decide) dX11_covers_8 ?_
      refine lv_topi (fun v7 e8 => ?_)
      have b9 : iv 0 8 v7 := by rw [e8]; exact iv_mono (o.a 54 (rfl : ro 396 = 54) _) (by decide +kernel) (by decide +kernel)
      refine lv_icmp_ge (tgt := 44) E.1 E.2.1 dX11_covers_9 (by decide) (fun c10 => ?_) (fun c10 => ?_)
      · skip
        refine lv_iconst (v := 1) E.1 E.2.1 dX11_covers_44 (by decide) ?_
        exact RET G ⟨rfl, (iv_mono (iv_lit (lo := 1) (hi := 1) 1 (by decide) (by decide)) (by decide) (by decide))⟩ (by decide) dX11_covers_45
      · skip
        have b11 : iv 0 7 y1 := lt_l (Int32.not_le.mp c10) b6 b9 (by decide)
        have b12 : iv 1 8 v7 := lt_r (Int32.not_le.mp c10) b6 b9 (by decide)
        refine lv_iload_n E.1 E.2.1 dX11_covers_12 rfl (lv_at hl 2 rfl) ?_
        refine lv_iload_n E.1 E.2.1 dX11_covers_13 rfl (lv_at hl 0 rfl) ?_
        refine t_si E G hl (v_isOf l D K ad z o x1 y1) 2 rfl mw_code_X11_isOf mw_ini_11 mw_ml_11_297 mw_stat_X11_isOf hd_X11_isOf ⟨Nat.le_trans (by decide) hfr, Nat.le_trans (by decide) hlo⟩ rfl rfl rfl (Nat.le_of_ble_eq_true rfl) dX11_covers_14 (fun r14 zz13 H locs hp15 G => ?_)
        obtain ⟨hz17, b16⟩ := hp15
        rw [hz17] at G
        refine lv_if_ne (tgt := 38) E.1 E.2.1 dX11_covers_17 (by decide) (fun c18 => ?_) (fun c18 => ?_)
        · skip
          have b19 : iv 1 1 r14 := ne_lo c18 b16 (by decide) (by decide)
          obtain ⟨v20, e21⟩ : ∃ w : Int32, w = y1 + (1 : Int32) := ⟨_, rfl⟩
          refine lv_iinc (v := v20) (lv' := [(2, .int v20), (0, .ref (ad 386)), (1, .int x1)]) E.1 E.2.1 dX11_covers_38 hl (k := 0) rfl (by rw [e21]; rfl) (by decide) rfl (fun ls hl => ?_)
          have b22 : iv 1 8 v20 := by rw [e21]; exact iv_add b11 (iv_lit (lo := 1) (hi := 1) 1 (by decide) (by decide)) (by decide) (by decide) (by decide) (by decide)
          have t23 : v20.toInt = y1.toInt + 1 := by rw [e21]; exact ti_addc 1 (by decide) b11 (by decide) (by decide)
          refine lv_goto (tgt := 2) E.1 E.2.1 dX11_covers_41 (by decide) ?_
          exact ih2 v20 H locs ls G (iv_mono b22 (by decide) (by decide)) (by have := t23; have := m5; omega) (lv_sub hl [0, 1, 2] rfl)
        · skip
          have b24 : iv 0 0 r14 := iv_eq c18 (iv_lit (lo := 0) (hi := 0) 0 (by decide) (by decide))
          refine lv_aload_n E.1 E.2.1 dX11_covers_20 rfl (lv_at hl 1 rfl) ?_
          refine t_get E G 11 20 (rfl : ro 386 = 11) (C := RX11) (T := TX11) (N := 37) rfl (by decide) (by decide) (by decide) mw_fl_11_39 (v := .ref (ad 396)) (fvl_o (n := 10) rfl) dX11_covers_21 ?_
          refine lv_bipush (v := 88) E.1 E.2.1 dX11_covers_24 (by decide) ?_
          refine lv_iload_n E.1 E.2.1 dX11_covers_26 rfl (lv_at hl 0 rfl) ?_
          refine lv_iadd E.1 E.2.1 dX11_covers_27 ?_
          refine lv_topi (fun v25 e26 => ?_)
          have b27 : iv 88 95 v25 := by rw [e26]; exact iv_add (iv_lit (lo := 88) (hi := 88) 88 (by decide) (by decide)) b11 (by decide) (by decide) (by decide) (by decide)
          have l28 : v25.toInt = 88 + 1 * y1.toInt := (show v25.toInt = 88 + y1.toInt by rw [e26]; exact ti_cadd 88 (by decide) b11 (by decide) (by decide)).trans (by omega)
          refine t_iald E G 54 (rfl : ro 396 = 54) (by decide) (by decide) rfl (n := 127) rfl (iv_vp b27 (by decide) (by decide)) dX11_covers_28 ?_
          refine lv_topi (fun v29 e30 => ?_)
          refine lv_iload_n E.1 E.2.1 dX11_covers_29 rfl (lv_at hl 2 rfl) ?_
          refine lv_iconst (v := (-1)) E.1 E.2.1 dX11_covers_30 (by decide) ?_
          refine lv_ixor E.1 E.2.1 dX11_covers_31 ?_
          refine lv_topi (fun v31 e32 => ?_)
          refine lv_iand E.1 E.2.1 dX11_covers_32 ?_
          refine lv_topi (fun v33 e34 => ?_)
          refine lv_if_eq (tgt := 38) E.1 E.2.1 dX11_covers_33 (by decide) (fun c35 => ?_) (fun c35 => ?_)
          · skip
            have b36 : iv 0 0 v33 := iv_eq c35 (iv_lit (lo := 0) (hi := 0) 0 (by decide) (by decide))
            obtain ⟨v37, e38⟩ : ∃ w : Int32, w = y1 + (1 : Int32) := ⟨_, rfl⟩
            refine lv_iinc (v := v37) (lv' := [(2, .int v37), (0, .ref (ad 386)), (1, .int x1)]) E.1 E.2.1 dX11_covers_38 hl (k := 0) rfl (by rw [e38]; rfl) (by decide) rfl (fun ls hl => ?_)
            have b39 : iv 1 8 v37 := by rw [e38]; exact iv_add b11 (iv_lit (lo := 1) (hi := 1) 1 (by decide) (by decide)) (by decide) (by decide) (by decide) (by decide)
            have t40 : v37.toInt = y1.toInt + 1 := by rw [e38]; exact ti_addc 1 (by decide) b11 (by decide) (by decide)
            refine lv_goto (tgt := 2) E.1 E.2.1 dX11_covers_41 (by decide) ?_
            exact ih2 v37 H locs ls G (iv_mono b39 (by decide) (by decide)) (by have := t40; have := m5; omega) (lv_sub hl [0, 1, 2] rfl)
          · skip
            refine lv_iconst (v := 0) E.1 E.2.1 dX11_covers_36 (by decide) ?_
            exact RET G ⟨rfl, (iv_mono (iv_lit (lo := 0) (hi := 0) 0 (by decide) (by decide)) (by decide) (by decide))⟩ (by decide) dX11_covers_37
  exact LOOP2 9 0 H locs ls G (iv_mono (iv_lit (lo := 0) (hi := 0) 0 (by decide) (by decide)) (by decide) (by decide)) (by have := (iv_lit (lo := 0) (hi := 0) 0 (by decide) (by decide)).1; omega) (lv_sub hl [0, 1, 2] rfl)
set_option maxHeartbeats 4000000 in
set_option maxRecDepth 100000 in
theorem v_isRest (l : Launch) (D : va_G) (K : Nat → ClassId) (ad : Nat → Nat) (z : TS) (o : Ok z) (x1 : Int32) (bx1 : iv 0 7 x1) (x2 : Int32) (bx2 : iv 0 7 x2) : cI l yX11_isRest cX11_isRest 4 .boolean ({ frames := 0, cells := 0, slots := 0, locals := 0 }) D K ad z [.ref (ad 386), .int x1, .int x2] (fun r u => u = z ∧ iv 0 1 r) := by
  refine t_enterI (by decide) (Nat.le_of_ble_eq_true rfl) rfl rfl ?_
  intro p e s m args below meth c A R Q H locs ls E hfr hlo RET G hl
  have E : mE p s m meth c cX11_isRest args 4 RX11 D K A := E
  have hl : lv_has ls 4 [(0, .ref (ad 386)), (1, .int x1), (2, .int x2)] := hl
  refine lv_iconst (v := 0) E.1 E.2.1 dX11_isRest_0 (by decide) ?_
  refine lv_istore_n (lv' := [(3, .int 0), (0, .ref (ad 386)), (1, .int x1), (2, .int x2)]) E.1 E.2.1 dX11_isRest_1 rfl hl (by decide) rfl (fun ls hl => ?_)
  have LOOP2 : ∀ n : Nat, ∀ (y1 : Int32) (H : Heap) (locs : List Loc) (ls : Array Slot), mG D A s H locs (wd K ad z) → iv 0 8 y1 → 8 < y1.toInt + (n : Int) → lv_has ls 4 [(3, .int y1), (0, .ref (ad 386)), (1, .int x1), (2, .int x2)] → W p l e R s m args below meth c H locs 0 0 Q (F0 m 2 ls []) := by
    intro n
    induction n with
    | zero =>
      intro y1 H locs ls G b6 m5 hl
      exact absurd m5 (by have := b6.1; have := b6.2; omega)
    | succ n ih2 =>
      intro y1 H locs ls G b6 m5 hl
      refine lv_iload_n E.1 E.2.1 dX11_isRest_2 rfl (lv_at hl 0 rfl) ?_
      refine lv_aload_n E.1 E.2.1 dX11_isRest_3 rfl (lv_at hl 1 rfl) ?_
      refine t_get E G 11 20 (rfl : ro 386 = 11) (C := RX11) (T := TX11) (N := 37) rfl (by decide) (by decide) (by decide) mw_fl_11_39 (v := .ref (ad 396)) (fvl_o (n := 10) rfl) dX11_isRest_4 ?_
      refine lv_iconst (v := 1) E.1 E.2.1 dX11_isRest_7 (by decide) ?_
      refine t_iald E G 54 (rfl : ro 396 = 54) (by decide) (by decide) rfl (n := 127) rfl (by unfold vp_in; decide) dX11_isRest_8 ?_
      refine lv_topi (fun v7 e8 => ?_)
      have b9 : iv 0 8 v7 := by rw [e8]; exact iv_mono (o.a 54 (rfl : ro 396 = 54) _) (by decide +kernel) (by decide +kernel)
      refine lv_icmp_ge (tgt := 82) E.1 E.2.1 dX11_isRest_9 (by decide) (fun c10 => ?_) (fun c10 => ?_)
      · skip
        refine lv_iconst (v := 1) E.1 E.2.1 dX11_isRest_82 (by decide) ?_
        exact RET G ⟨rfl, (iv_mono (iv_lit (lo := 1) (hi := 1) 1 (by decide) (by decide)) (by decide) (by decide))⟩ (by decide) dX11_isRest_83
      · skip
        have b11 : iv 0 7 y1 := lt_l (Int32.not_le.mp c10) b6 b9 (by decide)
        have b12 : iv 1 8 v7 := lt_r (Int32.not_le.mp c10) b6 b9 (by decide)
        refine lv_aload_n E.1 E.2.1 dX11_isRest_12 rfl (lv_at hl 1 rfl) ?_
        refine t_get E G 11 28 (rfl : ro 386 = 11) (C := RX11) (T := TX11) (N := 37) rfl (by decide) (by decide) (by decide) mw_fl_11_58 (v := .ref (ad 401)) (fvl_o (n := 15) rfl) dX11_isRest_13 ?_
        refine lv_iconst (v := 2) E.1 E.2.1 dX11_isRest_16 (by decide) ?_
        refine lv_bipush (v := 8) E.1 E.2.1 dX11_isRest_17 (by decide) ?_
        refine lv_iload_n E.1 E.2.1 dX11_isRest_19 rfl (lv_at hl 0 rfl) ?_
        refine lv_imul E.1 E.2.1 dX11_isRest_20 ?_
        refine lv_topi (fun v13 e14 => ?_)
        have b15 : iv 0 56 v13 := by rw [e14]; exact iv_mulc' b11 8 (by decide) (by decide) (by decide) (by decide) (by decide) (by decide)
        have l16 : v13.toInt = 0 + 8 * y1.toInt := (show v13.toInt = 8 * y1.toInt by rw [e14]; exact ti_cmul 8 (by decide) (by decide) b11 (by decide) (by decide)).trans (by omega)
        refine lv_iload_n E.1 E.2.1 dX11_isRest_21 rfl (lv_at hl 3 rfl) ?_
        refine lv_iadd E.1 E.2.1 dX11_isRest_22 ?_
        refine lv_topi (fun v17 e18 => ?_)
        have b19 : iv 0 63 v17 := by rw [e18]; exact iv_add b15 bx2 (by decide) (by decide) (by decide) (by decide)
        have l20 : v17.toInt = 0 + 8 * y1.toInt + 1 * x2.toInt := (show v17.toInt = v13.toInt + x2.toInt by rw [e18]; exact ti_addv b15 bx2 (by decide) (by decide)).trans (by omega)
        refine lv_imul E.1 E.2.1 dX11_isRest_23 ?_
        refine lv_topi (fun v21 e22 => ?_)
        have b23 : iv 0 126 v21 := by rw [e22]; exact iv_mulc' b19 2 (by decide) (by decide) (by decide) (by decide) (by decide) (by decide)
        have l24 : v21.toInt = 0 + 16 * y1.toInt + 2 * x2.toInt := (show v21.toInt = 2 * v17.toInt by rw [e22]; exact ti_cmul 2 (by decide) (by decide) b19 (by decide) (by decide)).trans (by omega)
        refine t_iald E G 59 (rfl : ro 401 = 59) (by decide) (by decide) rfl (n := 128) rfl (iv_vp b23 (by decide) (by decide)) dX11_isRest_24 ?_
        refine lv_topi (fun v25 e26 => ?_)
        refine lv_aload_n E.1 E.2.1 dX11_isRest_25 rfl (lv_at hl 1 rfl) ?_
        refine t_get E G 11 28 (rfl : ro 386 = 11) (C := RX11) (T := TX11) (N := 37) rfl (by decide) (by decide) (by decide) mw_fl_11_58 (v := .ref (ad 401)) (fvl_o (n := 15) rfl) dX11_isRest_26 ?_
        refine lv_iconst (v := 2) E.1 E.2.1 dX11_isRest_29 (by decide) ?_
        refine lv_bipush (v := 8) E.1 E.2.1 dX11_isRest_30 (by decide) ?_
        refine lv_iload_n E.1 E.2.1 dX11_isRest_32 rfl (lv_at hl 2 rfl) ?_
        refine lv_imul E.1 E.2.1 dX11_isRest_33 ?_
        refine lv_topi (fun v27 e28 => ?_)
        have b29 : iv 0 56 v27 := by rw [e28]; exact iv_mulc' bx1 8 (by decide) (by decide) (by decide) (by decide) (by decide) (by decide)
        have l30 : v27.toInt = 0 + 8 * x1.toInt := (show v27.toInt = 8 * x1.toInt by rw [e28]; exact ti_cmul 8 (by decide) (by decide) bx1 (by decide) (by decide)).trans (by omega)
        refine lv_iload_n E.1 E.2.1 dX11_isRest_34 rfl (lv_at hl 3 rfl) ?_
        refine lv_iadd E.1 E.2.1 dX11_isRest_35 ?_
        refine lv_topi (fun v31 e32 => ?_)
        have b33 : iv 0 63 v31 := by rw [e32]; exact iv_add b29 bx2 (by decide) (by decide) (by decide) (by decide)
        have l34 : v31.toInt = 0 + 8 * x1.toInt + 1 * x2.toInt := (show v31.toInt = v27.toInt + x2.toInt by rw [e32]; exact ti_addv b29 bx2 (by decide) (by decide)).trans (by omega)
        refine lv_imul E.1 E.2.1 dX11_isRest_36 ?_
        refine lv_topi (fun v35 e36 => ?_)
        have b37 : iv 0 126 v35 := by rw [e36]; exact iv_mulc' b33 2 (by decide) (by decide) (by decide) (by decide) (by decide) (by decide)
        have l38 : v35.toInt = 0 + 16 * x1.toInt + 2 * x2.toInt := (show v35.toInt = 2 * v31.toInt by rw [e36]; exact ti_cmul 2 (by decide) (by decide) b33 (by decide) (by decide)).trans (by omega)
        refine t_iald E G 59 (rfl : ro 401 = 59) (by decide) (by decide) rfl (n := 128) rfl (iv_vp b37 (by decide) (by decide)) dX11_isRest_37 ?_
        refine lv_topi (fun v39 e40 => ?_)
        refine lv_icmp_gt (tgt := 74) E.1 E.2.1 dX11_isRest_38 (by decide) (fun c41 => ?_) (fun c41 => ?_)
        · skip
          have b42 : iv (-2147483648) 2147483646 v39 := lt_l c41 (iv_full v39) (iv_full v25) (by decide)
          have b43 : iv (-2147483647) 2147483647 v25 := lt_r c41 (iv_full v39) (iv_full v25) (by decide)
          refine lv_iconst (v := 0) E.1 E.2.1 dX11_isRest_74 (by decide) ?_
          exact RET G ⟨rfl, (iv_mono (iv_lit (lo := 0) (hi := 0) 0 (by decide) (by decide)) (by decide) (by decide))⟩ (by decide) dX11_isRest_75
        · skip
          refine lv_aload_n E.1 E.2.1 dX11_isRest_41 rfl (lv_at hl 1 rfl) ?_
          refine t_get E G 11 28 (rfl : ro 386 = 11) (C := RX11) (T := TX11) (N := 37) rfl (by decide) (by decide) (by decide) mw_fl_11_58 (v := .ref (ad 401)) (fvl_o (n := 15) rfl) dX11_isRest_42 ?_
          refine lv_iconst (v := 2) E.1 E.2.1 dX11_isRest_45 (by decide) ?_
          refine lv_bipush (v := 8) E.1 E.2.1 dX11_isRest_46 (by decide) ?_
          refine lv_iload_n E.1 E.2.1 dX11_isRest_48 rfl (lv_at hl 2 rfl) ?_
          refine lv_imul E.1 E.2.1 dX11_isRest_49 ?_
          refine lv_topi (fun v44 e45 => ?_)
          have b46 : iv 0 56 v44 := by rw [e45]; exact iv_mulc' bx1 8 (by decide) (by decide) (by decide) (by decide) (by decide) (by decide)
          have l47 : v44.toInt = 0 + 8 * x1.toInt := (show v44.toInt = 8 * x1.toInt by rw [e45]; exact ti_cmul 8 (by decide) (by decide) bx1 (by decide) (by decide)).trans (by omega)
          refine lv_iload_n E.1 E.2.1 dX11_isRest_50 rfl (lv_at hl 0 rfl) ?_
          refine lv_iadd E.1 E.2.1 dX11_isRest_51 ?_
          refine lv_topi (fun v48 e49 => ?_)
          have b50 : iv 0 63 v48 := by rw [e49]; exact iv_add b46 b11 (by decide) (by decide) (by decide) (by decide)
          have l51 : v48.toInt = 0 + 8 * x1.toInt + 1 * y1.toInt := (show v48.toInt = v44.toInt + y1.toInt by rw [e49]; exact ti_addv b46 b11 (by decide) (by decide)).trans (by omega)
          refine lv_imul E.1 E.2.1 dX11_isRest_52 ?_
          refine lv_topi (fun v52 e53 => ?_)
          have b54 : iv 0 126 v52 := by rw [e53]; exact iv_mulc' b50 2 (by decide) (by decide) (by decide) (by decide) (by decide) (by decide)
          have l55 : v52.toInt = 0 + 16 * x1.toInt + 2 * y1.toInt := (show v52.toInt = 2 * v48.toInt by rw [e53]; exact ti_cmul 2 (by decide) (by decide) b50 (by decide) (by decide)).trans (by omega)
          refine lv_iconst (v := 1) E.1 E.2.1 dX11_isRest_53 (by decide) ?_
          refine lv_iadd E.1 E.2.1 dX11_isRest_54 ?_
          refine lv_topi (fun v56 e57 => ?_)
          have b58 : iv 1 127 v56 := by rw [e57]; exact iv_add b54 (iv_lit (lo := 1) (hi := 1) 1 (by decide) (by decide)) (by decide) (by decide) (by decide) (by decide)
          have l59 : v56.toInt = 1 + 16 * x1.toInt + 2 * y1.toInt := (show v56.toInt = v52.toInt + 1 by rw [e57]; exact ti_addc 1 (by decide) b54 (by decide) (by decide)).trans (by omega)
          refine t_iald E G 59 (rfl : ro 401 = 59) (by decide) (by decide) rfl (n := 128) rfl (iv_vp b58 (by decide) (by decide)) dX11_isRest_55 ?_
          refine lv_topi (fun v60 e61 => ?_)
          refine lv_aload_n E.1 E.2.1 dX11_isRest_56 rfl (lv_at hl 1 rfl) ?_
          refine t_get E G 11 28 (rfl : ro 386 = 11) (C := RX11) (T := TX11) (N := 37) rfl (by decide) (by decide) (by decide) mw_fl_11_58 (v := .ref (ad 401)) (fvl_o (n := 15) rfl) dX11_isRest_57 ?_
          refine lv_iconst (v := 2) E.1 E.2.1 dX11_isRest_60 (by decide) ?_
          refine lv_bipush (v := 8) E.1 E.2.1 dX11_isRest_61 (by decide) ?_
          refine lv_iload_n E.1 E.2.1 dX11_isRest_63 rfl (lv_at hl 2 rfl) ?_
          refine lv_imul E.1 E.2.1 dX11_isRest_64 ?_
          refine lv_topi (fun v62 e63 => ?_)
          have b64 : iv 0 56 v62 := by rw [e63]; exact iv_mulc' bx1 8 (by decide) (by decide) (by decide) (by decide) (by decide) (by decide)
          have l65 : v62.toInt = 0 + 8 * x1.toInt := (show v62.toInt = 8 * x1.toInt by rw [e63]; exact ti_cmul 8 (by decide) (by decide) bx1 (by decide) (by decide)).trans (by omega)
          refine lv_iload_n E.1 E.2.1 dX11_isRest_65 rfl (lv_at hl 3 rfl) ?_
          refine lv_iadd E.1 E.2.1 dX11_isRest_66 ?_
          refine lv_topi (fun v66 e67 => ?_)
          have b68 : iv 0 63 v66 := by rw [e67]; exact iv_add b64 bx2 (by decide) (by decide) (by decide) (by decide)
          have l69 : v66.toInt = 0 + 8 * x1.toInt + 1 * x2.toInt := (show v66.toInt = v62.toInt + x2.toInt by rw [e67]; exact ti_addv b64 bx2 (by decide) (by decide)).trans (by omega)
          refine lv_imul E.1 E.2.1 dX11_isRest_67 ?_
          refine lv_topi (fun v70 e71 => ?_)
          have b72 : iv 0 126 v70 := by rw [e71]; exact iv_mulc' b68 2 (by decide) (by decide) (by decide) (by decide) (by decide) (by decide)
          have l73 : v70.toInt = 0 + 16 * x1.toInt + 2 * x2.toInt := (show v70.toInt = 2 * v66.toInt by rw [e71]; exact ti_cmul 2 (by decide) (by decide) b68 (by decide) (by decide)).trans (by omega)
          refine lv_iconst (v := 1) E.1 E.2.1 dX11_isRest_68 (by decide) ?_
          refine lv_iadd E.1 E.2.1 dX11_isRest_69 ?_
          refine lv_topi (fun v74 e75 => ?_)
          have b76 : iv 1 127 v74 := by rw [e75]; exact iv_add b72 (iv_lit (lo := 1) (hi := 1) 1 (by decide) (by decide)) (by decide) (by decide) (by decide) (by decide)
          have l77 : v74.toInt = 1 + 16 * x1.toInt + 2 * x2.toInt := (show v74.toInt = v70.toInt + 1 by rw [e75]; exact ti_addc 1 (by decide) b72 (by decide) (by decide)).trans (by omega)
          refine t_iald E G 59 (rfl : ro 401 = 59) (by decide) (by decide) rfl (n := 128) rfl (iv_vp b76 (by decide) (by decide)) dX11_isRest_70 ?_
          refine lv_topi (fun v78 e79 => ?_)
          refine lv_icmp_le (tgt := 76) E.1 E.2.1 dX11_isRest_71 (by decide) (fun c80 => ?_) (fun c80 => ?_)
          · skip
            obtain ⟨v81, e82⟩ : ∃ w : Int32, w = y1 + (1 : Int32) := ⟨_, rfl⟩
            refine lv_iinc (v := v81) (lv' := [(3, .int v81), (0, .ref (ad 386)), (1, .int x1), (2, .int x2)]) E.1 E.2.1 dX11_isRest_76 hl (k := 0) rfl (by rw [e82]; rfl) (by decide) rfl (fun ls hl => ?_)
            have b83 : iv 1 8 v81 := by rw [e82]; exact iv_add b11 (iv_lit (lo := 1) (hi := 1) 1 (by decide) (by decide)) (by decide) (by decide) (by decide) (by decide)
            have t84 : v81.toInt = y1.toInt + 1 := by rw [e82]; exact ti_addc 1 (by decide) b11 (by decide) (by decide)
            refine lv_goto (tgt := 2) E.1 E.2.1 dX11_isRest_79 (by decide) ?_
            exact ih2 v81 H locs ls G (iv_mono b83 (by decide) (by decide)) (by have := t84; have := m5; omega) (lv_sub hl [0, 1, 2, 3] rfl)
          · skip
            have b85 : iv (-2147483648) 2147483646 v78 := lt_l (Int32.not_le.mp c80) (iv_full v78) (iv_full v60) (by decide)
            have b86 : iv (-2147483647) 2147483647 v60 := lt_r (Int32.not_le.mp c80) (iv_full v78) (iv_full v60) (by decide)
            refine lv_iconst (v := 0) E.1 E.2.1 dX11_isRest_74 (by decide) ?_
            exact RET G ⟨rfl, (iv_mono (iv_lit (lo := 0) (hi := 0) 0 (by decide) (by decide)) (by decide) (by decide))⟩ (by decide) dX11_isRest_75
  exact LOOP2 9 0 H locs ls G (iv_mono (iv_lit (lo := 0) (hi := 0) 0 (by decide) (by decide)) (by decide) (by decide)) (by have := (iv_lit (lo := 0) (hi := 0) 0 (by decide) (by decide)).1; omega) (lv_sub hl [0, 1, 2, 3] rfl)
set_option maxHeartbeats 4000000 in
set_option maxRecDepth 100000 in
theorem v_hasThen (l : Launch) (D : va_G) (K : Nat → ClassId) (ad : Nat → Nat) (z : TS) (o : Ok z) (x1 : Int32) (bx1 : iv 0 5 x1) : cI l yX11_hasThen cX11_hasThen 3 .int ({ frames := 2, cells := 0, slots := 0, locals := 42 }) D K ad z [.ref (ad 386), .int x1] (fun r u => u = z) := by
  refine t_enterI (by decide) (Nat.le_of_ble_eq_true rfl) rfl rfl ?_
  intro p e s m args below meth c A R Q H locs ls E hfr hlo RET G hl
  have E : mE p s m meth c cX11_hasThen args 3 RX11 D K A := E
  have hl : lv_has ls 3 [(0, .ref (ad 386)), (1, .int x1)] := hl
  refine lv_aload_n E.1 E.2.1 dX11_hasThen_0 rfl (lv_at hl 0 rfl) ?_
  refine lv_iload_n E.1 E.2.1 dX11_hasThen_1 rfl (lv_at hl 1 rfl) ?_
  refine t_vi E G hl (v_isLaid l D K ad z o x1) 11 (rfl : ro 386 = 11) (by decide) rfl rfl 1 rfl mw_code_X11_isLaid mw_ini_11 mw_ml_11_288 mw_inst_X11_isLaid mw_sel_X11_isLaid hd_X11_isLaid ⟨Nat.le_trans (by decide) hfr, Nat.le_trans (by decide) hlo⟩ rfl rfl rfl (Nat.le_of_ble_eq_true rfl) dX11_hasThen_2 (fun r2 zz1 H locs hp3 G => ?_)
  obtain ⟨hz6, b4, h5⟩ := hp3
  rw [hz6] at G
  refine lv_if_ne (tgt := 18) E.1 E.2.1 dX11_hasThen_5 (by decide) (fun c7 => ?_) (fun c7 => ?_)
  · skip
    have b8 : iv 1 1 r2 := ne_lo c7 b4 (by decide) (by decide)
    refine lv_iconst (v := 0) E.1 E.2.1 dX11_hasThen_18 (by decide) ?_
    refine lv_istore_n (lv' := [(2, .int 0), (0, .ref (ad 386)), (1, .int x1)]) E.1 E.2.1 dX11_hasThen_19 rfl hl (by decide) rfl (fun ls hl => ?_)
    have LOOP20 : ∀ n : Nat, ∀ (y9 : Int32) (H : Heap) (locs : List Loc) (ls : Array Slot), mG D A s H locs (wd K ad z) → iv 0 5 y9 → 5 < y9.toInt + (n : Int) → lv_has ls 3 [(2, .int y9), (0, .ref (ad 386)), (1, .int x1)] → W p l e R s m args below meth c H locs 0 0 Q (F0 m 20 ls []) := by
      intro n
      induction n with
      | zero =>
        intro y9 H locs ls G b14 m13 hl
        exact absurd m13 (by have := b14.1; have := b14.2; omega)
      | succ n ih20 =>
        intro y9 H locs ls G b14 m13 hl
        refine lv_iload_n E.1 E.2.1 dX11_hasThen_20 rfl (lv_at hl 0 rfl) ?_
        refine lv_aload_n E.1 E.2.1 dX11_hasThen_21 rfl (lv_at hl 1 rfl) ?_
        refine t_get E G 11 20 (rfl : ro 386 = 11) (C := RX11) (T := TX11) (N := 37) rfl (by decide) (by decide) (by decide) mw_fl_11_39 (v := .ref (ad 396)) (fvl_o (n := 10) rfl) dX11_hasThen_22 ?_
        refine lv_iconst (v := 4) E.1 E.2.1 dX11_hasThen_25 (by decide) ?_
        refine t_iald E G 54 (rfl : ro 396 = 54) (by decide) (by decide) rfl (n := 127) rfl (by unfold vp_in; decide) dX11_hasThen_26 ?_
        refine lv_topi (fun v15 e16 => ?_)
        have b17 : iv 0 5 v15 := by rw [e16]; exact iv_mono (o.a 54 (rfl : ro 396 = 54) _) (by decide +kernel) (by decide +kernel)
        refine lv_icmp_ge (tgt := 51) E.1 E.2.1 dX11_hasThen_27 (by decide) (fun c18 => ?_) (fun c18 => ?_)
        · skip
          refine lv_iconst (v := 0) E.1 E.2.1 dX11_hasThen_51 (by decide) ?_
          exact RET G rfl rfl dX11_hasThen_52
        · skip
          have b19 : iv 0 4 y9 := lt_l (Int32.not_le.mp c18) b14 b17 (by decide)
          have b20 : iv 1 5 v15 := lt_r (Int32.not_le.mp c18) b14 b17 (by decide)
          refine lv_aload_n E.1 E.2.1 dX11_hasThen_30 rfl (lv_at hl 1 rfl) ?_
          refine lv_iload_n E.1 E.2.1 dX11_hasThen_31 rfl (lv_at hl 0 rfl) ?_
          refine t_vi E G hl (v_cornerOf l D K ad z o y9 (iv_mono b19 (by decide) (by decide))) 11 (rfl : ro 386 = 11) (by decide) rfl rfl 1 rfl mw_code_X11_cornerOf mw_ini_11 mw_ml_11_291 mw_inst_X11_cornerOf mw_sel_X11_cornerOf hd_X11_cornerOf ⟨Nat.le_trans (by decide) hfr, Nat.le_trans (by decide) hlo⟩ rfl rfl rfl (Nat.le_of_ble_eq_true rfl) dX11_hasThen_32 (fun r22 zz21 H locs hp23 G => ?_)
          obtain ⟨hz25, b24⟩ := hp23
          rw [hz25] at G
          refine lv_aload_n E.1 E.2.1 dX11_hasThen_35 rfl (lv_at hl 1 rfl) ?_
          refine lv_iload_n E.1 E.2.1 dX11_hasThen_36 rfl (lv_at hl 2 rfl) ?_
          refine t_vi E G hl (v_lureAt l D K ad z o x1 (iv_mono bx1 (by decide) (by decide))) 11 (rfl : ro 386 = 11) (by decide) rfl rfl 1 rfl mw_code_X11_lureAt mw_ini_11 mw_ml_11_311 mw_inst_X11_lureAt mw_sel_X11_lureAt hd_X11_lureAt ⟨Nat.le_trans (by decide) hfr, Nat.le_trans (by decide) hlo⟩ rfl rfl rfl (Nat.le_of_ble_eq_true rfl) dX11_hasThen_37 (fun r27 zz26 H locs hp28 G => ?_)
          have hz29 := hp28
          rw [hz29] at G
          refine lv_icmp_ne (tgt := 45) E.1 E.2.1 dX11_hasThen_40 (by decide) (fun c30 => ?_) (fun c30 => ?_)
          · skip
            obtain ⟨v31, e32⟩ : ∃ w : Int32, w = y9 + (1 : Int32) := ⟨_, rfl⟩
            refine lv_iinc (v := v31) (lv' := [(2, .int v31), (0, .ref (ad 386)), (1, .int x1)]) E.1 E.2.1 dX11_hasThen_45 hl (k := 0) rfl (by rw [e32]; rfl) (by decide) rfl (fun ls hl => ?_)
            have b33 : iv 1 5 v31 := by rw [e32]; exact iv_add b19 (iv_lit (lo := 1) (hi := 1) 1 (by decide) (by decide)) (by decide) (by decide) (by decide) (by decide)
            have t34 : v31.toInt = y9.toInt + 1 := by rw [e32]; exact ti_addc 1 (by decide) b19 (by decide) (by decide)
            refine lv_goto (tgt := 20) E.1 E.2.1 dX11_hasThen_48 (by decide) ?_
            exact ih20 v31 H locs ls G (iv_mono b33 (by decide) (by decide)) (by have := t34; have := m13; omega) (lv_sub hl [0, 1, 2] rfl)
          · skip
            refine lv_iconst (v := 1) E.1 E.2.1 dX11_hasThen_43 (by decide) ?_
            exact RET G rfl rfl dX11_hasThen_44
    exact LOOP20 6 0 H locs ls G (iv_mono (iv_lit (lo := 0) (hi := 0) 0 (by decide) (by decide)) (by decide) (by decide)) (by have := (iv_lit (lo := 0) (hi := 0) 0 (by decide) (by decide)).1; omega) (lv_sub hl [0, 1, 2] rfl)
  · skip
    have b35 : iv 0 0 r2 := iv_eq c7 (iv_lit (lo := 0) (hi := 0) 0 (by decide) (by decide))
    refine lv_aload_n E.1 E.2.1 dX11_hasThen_8 rfl (lv_at hl 0 rfl) ?_
    refine t_get E G 11 20 (rfl : ro 386 = 11) (C := RX11) (T := TX11) (N := 37) rfl (by decide) (by decide) (by decide) mw_fl_11_39 (v := .ref (ad 396)) (fvl_o (n := 10) rfl) dX11_hasThen_9 ?_
    refine lv_bipush (v := 50) E.1 E.2.1 dX11_hasThen_12 (by decide) ?_
    refine lv_iload_n E.1 E.2.1 dX11_hasThen_14 rfl (lv_at hl 1 rfl) ?_
    refine lv_iadd E.1 E.2.1 dX11_hasThen_15 ?_
    refine lv_topi (fun v36 e37 => ?_)
    have b38 : iv 50 55 v36 := by rw [e37]; exact iv_add (iv_lit (lo := 50) (hi := 50) 50 (by decide) (by decide)) bx1 (by decide) (by decide) (by decide) (by decide)
    have l39 : v36.toInt = 50 + 1 * x1.toInt := (show v36.toInt = 50 + x1.toInt by rw [e37]; exact ti_cadd 50 (by decide) bx1 (by decide) (by decide)).trans (by omega)
    refine t_iald E G 54 (rfl : ro 396 = 54) (by decide) (by decide) rfl (n := 127) rfl (iv_vp b38 (by decide) (by decide)) dX11_hasThen_16 ?_
    refine lv_topi (fun v40 e41 => ?_)
    exact RET G rfl rfl dX11_hasThen_17
set_option maxHeartbeats 4000000 in
set_option maxRecDepth 100000 in
theorem v_areAlike (l : Launch) (D : va_G) (K : Nat → ClassId) (ad : Nat → Nat) (z : TS) (o : Ok z) (x1 : Int32) (bx1 : iv 0 60 x1) (x2 : Int32) (bx2 : iv 0 60 x2) : cI l yX11_areAlike cX11_areAlike 4 .boolean ({ frames := 0, cells := 0, slots := 0, locals := 0 }) D K ad z [.ref (ad 386), .int x1, .int x2] (fun r u => u = z ∧ iv 0 1 r) := by
  refine t_enterI (by decide) (Nat.le_of_ble_eq_true rfl) rfl rfl ?_
  intro p e s m args below meth c A R Q H locs ls E hfr hlo RET G hl
  have E : mE p s m meth c cX11_areAlike args 4 RX11 D K A := E
  have hl : lv_has ls 4 [(0, .ref (ad 386)), (1, .int x1), (2, .int x2)] := hl
  refine lv_iconst (v := 0) E.1 E.2.1 dX11_areAlike_0 (by decide) ?_
  refine lv_istore_n (lv' := [(3, .int 0), (0, .ref (ad 386)), (1, .int x1), (2, .int x2)]) E.1 E.2.1 dX11_areAlike_1 rfl hl (by decide) rfl (fun ls hl => ?_)
  have LOOP2 : ∀ n : Nat, ∀ (y1 : Int32) (H : Heap) (locs : List Loc) (ls : Array Slot), mG D A s H locs (wd K ad z) → iv 0 6 y1 → 6 < y1.toInt + (n : Int) → lv_has ls 4 [(3, .int y1), (0, .ref (ad 386)), (1, .int x1), (2, .int x2)] → W p l e R s m args below meth c H locs 0 0 Q (F0 m 2 ls []) := by
    intro n
    induction n with
    | zero =>
      intro y1 H locs ls G b6 m5 hl
      exact absurd m5 (by have := b6.1; have := b6.2; omega)
    | succ n ih2 =>
      intro y1 H locs ls G b6 m5 hl
      refine lv_iload_n E.1 E.2.1 dX11_areAlike_2 rfl (lv_at hl 0 rfl) ?_
      refine lv_bipush (v := 6) E.1 E.2.1 dX11_areAlike_3 (by decide) ?_
      refine lv_icmp_ge (tgt := 41) E.1 E.2.1 dX11_areAlike_5 (by decide) (fun c7 => ?_) (fun c7 => ?_)
      · skip
        have b8 : iv 6 6 y1 := le_r c7 (iv_lit (lo := 6) (hi := 6) 6 (by decide) (by decide)) b6 (by decide)
        refine lv_iconst (v := 1) E.1 E.2.1 dX11_areAlike_41 (by decide) ?_
        exact RET G ⟨rfl, (iv_mono (iv_lit (lo := 1) (hi := 1) 1 (by decide) (by decide)) (by decide) (by decide))⟩ (by decide) dX11_areAlike_42
      · skip
        have b9 : iv 0 5 y1 := lt_l (Int32.not_le.mp c7) b6 (iv_lit (lo := 6) (hi := 6) 6 (by decide) (by decide)) (by decide)
        refine lv_aload_n E.1 E.2.1 dX11_areAlike_8 rfl (lv_at hl 1 rfl) ?_
        refine t_get E G 11 29 (rfl : ro 386 = 11) (C := RX11) (T := TX11) (N := 37) rfl (by decide) (by decide) (by decide) mw_fl_11_61 (v := .ref (ad 402)) (fvl_o (n := 16) rfl) dX11_areAlike_9 ?_
        refine lv_bipush (v := 6) E.1 E.2.1 dX11_areAlike_12 (by decide) ?_
        refine lv_iload_n E.1 E.2.1 dX11_areAlike_14 rfl (lv_at hl 2 rfl) ?_
        refine lv_imul E.1 E.2.1 dX11_areAlike_15 ?_
        refine lv_topi (fun v10 e11 => ?_)
        have b12 : iv 0 360 v10 := by rw [e11]; exact iv_mulc' bx1 6 (by decide) (by decide) (by decide) (by decide) (by decide) (by decide)
        have l13 : v10.toInt = 0 + 6 * x1.toInt := (show v10.toInt = 6 * x1.toInt by rw [e11]; exact ti_cmul 6 (by decide) (by decide) bx1 (by decide) (by decide)).trans (by omega)
        refine lv_iload_n E.1 E.2.1 dX11_areAlike_16 rfl (lv_at hl 0 rfl) ?_
        refine lv_iadd E.1 E.2.1 dX11_areAlike_17 ?_
        refine lv_topi (fun v14 e15 => ?_)
        have b16 : iv 0 365 v14 := by rw [e15]; exact iv_add b12 b9 (by decide) (by decide) (by decide) (by decide)
        have l17 : v14.toInt = 0 + 6 * x1.toInt + 1 * y1.toInt := (show v14.toInt = v10.toInt + y1.toInt by rw [e15]; exact ti_addv b12 b9 (by decide) (by decide)).trans (by omega)
        refine t_iald E G 60 (rfl : ro 402 = 60) (by decide) (by decide) rfl (n := 366) rfl (iv_vp b16 (by decide) (by decide)) dX11_areAlike_18 ?_
        refine lv_topi (fun v18 e19 => ?_)
        refine lv_aload_n E.1 E.2.1 dX11_areAlike_19 rfl (lv_at hl 1 rfl) ?_
        refine t_get E G 11 29 (rfl : ro 386 = 11) (C := RX11) (T := TX11) (N := 37) rfl (by decide) (by decide) (by decide) mw_fl_11_61 (v := .ref (ad 402)) (fvl_o (n := 16) rfl) dX11_areAlike_20 ?_
        refine lv_bipush (v := 6) E.1 E.2.1 dX11_areAlike_23 (by decide) ?_
        refine lv_iload_n E.1 E.2.1 dX11_areAlike_25 rfl (lv_at hl 3 rfl) ?_
        refine lv_imul E.1 E.2.1 dX11_areAlike_26 ?_
        refine lv_topi (fun v20 e21 => ?_)
        have b22 : iv 0 360 v20 := by rw [e21]; exact iv_mulc' bx2 6 (by decide) (by decide) (by decide) (by decide) (by decide) (by decide)
        have l23 : v20.toInt = 0 + 6 * x2.toInt := (show v20.toInt = 6 * x2.toInt by rw [e21]; exact ti_cmul 6 (by decide) (by decide) bx2 (by decide) (by decide)).trans (by omega)
        refine lv_iload_n E.1 E.2.1 dX11_areAlike_27 rfl (lv_at hl 0 rfl) ?_
        refine lv_iadd E.1 E.2.1 dX11_areAlike_28 ?_
        refine lv_topi (fun v24 e25 => ?_)
        have b26 : iv 0 365 v24 := by rw [e25]; exact iv_add b22 b9 (by decide) (by decide) (by decide) (by decide)
        have l27 : v24.toInt = 0 + 6 * x2.toInt + 1 * y1.toInt := (show v24.toInt = v20.toInt + y1.toInt by rw [e25]; exact ti_addv b22 b9 (by decide) (by decide)).trans (by omega)
        refine t_iald E G 60 (rfl : ro 402 = 60) (by decide) (by decide) rfl (n := 366) rfl (iv_vp b26 (by decide) (by decide)) dX11_areAlike_29 ?_
        refine lv_topi (fun v28 e29 => ?_)
        refine lv_icmp_eq (tgt := 35) E.1 E.2.1 dX11_areAlike_30 (by decide) (fun c30 => ?_) (fun c30 => ?_)
        · skip
          obtain ⟨v31, e32⟩ : ∃ w : Int32, w = y1 + (1 : Int32) := ⟨_, rfl⟩
          refine lv_iinc (v := v31) (lv' := [(3, .int v31), (0, .ref (ad 386)), (1, .int x1), (2, .int x2)]) E.1 E.2.1 dX11_areAlike_35 hl (k := 0) rfl (by rw [e32]; rfl) (by decide) rfl (fun ls hl => ?_)
          have b33 : iv 1 6 v31 := by rw [e32]; exact iv_add b9 (iv_lit (lo := 1) (hi := 1) 1 (by decide) (by decide)) (by decide) (by decide) (by decide) (by decide)
          have t34 : v31.toInt = y1.toInt + 1 := by rw [e32]; exact ti_addc 1 (by decide) b9 (by decide) (by decide)
          refine lv_goto (tgt := 2) E.1 E.2.1 dX11_areAlike_38 (by decide) ?_
          exact ih2 v31 H locs ls G (iv_mono b33 (by decide) (by decide)) (by have := t34; have := m5; omega) (lv_sub hl [0, 1, 2, 3] rfl)
        · skip
          refine lv_iconst (v := 0) E.1 E.2.1 dX11_areAlike_33 (by decide) ?_
          exact RET G ⟨rfl, (iv_mono (iv_lit (lo := 0) (hi := 0) 0 (by decide) (by decide)) (by decide) (by decide))⟩ (by decide) dX11_areAlike_34
  exact LOOP2 7 0 H locs ls G (iv_mono (iv_lit (lo := 0) (hi := 0) 0 (by decide) (by decide)) (by decide) (by decide)) (by have := (iv_lit (lo := 0) (hi := 0) 0 (by decide) (by decide)).1; omega) (lv_sub hl [0, 1, 2, 3] rfl)
set_option maxHeartbeats 4000000 in
set_option maxRecDepth 100000 in
theorem v_pence (l : Launch) (D : va_G) (K : Nat → ClassId) (ad : Nat → Nat) (z : TS) (o : Ok z) (x1 : Int32) (x2 : Int32) : cI l yX11_pence cX11_pence 9 .int ({ frames := 2, cells := 0, slots := 0, locals := 43 }) D K ad z [.ref (ad 386), .int x1, .int x2] (fun r u => u = z) := by
  refine t_enterI (by decide) (Nat.le_of_ble_eq_true rfl) rfl rfl ?_
  intro p e s m args below meth c A R Q H locs ls E hfr hlo RET G hl
  have E : mE p s m meth c cX11_pence args 9 RX11 D K A := E
  have hl : lv_has ls 9 [(0, .ref (ad 386)), (1, .int x1), (2, .int x2)] := hl
  refine lv_aload_n E.1 E.2.1 dX11_pence_0 rfl (lv_at hl 0 rfl) ?_
  refine lv_iload_n E.1 E.2.1 dX11_pence_1 rfl (lv_at hl 2 rfl) ?_
  refine t_vi E G hl (v_isWalker l D K ad z o x2) 11 (rfl : ro 386 = 11) (by decide) rfl rfl 1 rfl mw_code_X11_isWalker mw_ini_11 mw_ml_11_317 mw_inst_X11_isWalker mw_sel_X11_isWalker hd_X11_isWalker ⟨Nat.le_trans (by decide) hfr, Nat.le_trans (by decide) hlo⟩ rfl rfl rfl (Nat.le_of_ble_eq_true rfl) dX11_pence_2 (fun r2 zz1 H locs hp3 G => ?_)
  obtain ⟨hz6, b4, h5⟩ := hp3
  rw [hz6] at G
  refine lv_if_eq (tgt := 20) E.1 E.2.1 dX11_pence_5 (by decide) (fun c7 => ?_) (fun c7 => ?_)
  · skip
    have b8 : iv 0 0 r2 := iv_eq c7 (iv_lit (lo := 0) (hi := 0) 0 (by decide) (by decide))
    refine lv_iconst (v := (-1)) E.1 E.2.1 dX11_pence_20 (by decide) ?_
    exact RET G rfl rfl dX11_pence_21
  · skip
    have b9 : iv 1 1 r2 := ne_lo c7 b4 (by decide) (by decide)
    have b10 : iv 0 4 x2 := h5 c7
    refine lv_iload_n E.1 E.2.1 dX11_pence_8 rfl (lv_at hl 1 rfl) ?_
    refine lv_i2l E.1 E.2.1 dX11_pence_9 rfl ?_
    refine lv_topl (fun v11 e12 => ?_)
    refine lv_lconst (v := 0) E.1 E.2.1 dX11_pence_10 (by decide) ?_
    refine lv_ldc2 (v := 9999) E.1 E.2.1 E.2.2.2.1 (E.2.2.2.2.1 _ mw_cL_11_427) dX11_pence_11 ?_
    refine t_si E G hl (v_in l D K ad z o v11 0 9999) 3 rfl mw_code_X11_in mw_ini_11 mw_ml_11_121 mw_stat_X11_in hd_X11_in ⟨Nat.le_trans (by decide) hfr, Nat.le_trans (by decide) hlo⟩ rfl rfl rfl (Nat.le_of_ble_eq_true rfl) dX11_pence_14 (fun r14 zz13 H locs hp15 G => ?_)
    obtain ⟨hz18, b16, h17⟩ := hp15
    rw [hz18] at G
    refine lv_if_ne (tgt := 22) E.1 E.2.1 dX11_pence_17 (by decide) (fun c19 => ?_) (fun c19 => ?_)
    · skip
      have b20 : iv 1 1 r14 := ne_lo c19 b16 (by decide) (by decide)
      have b21 : iv 0 9999 x1 := (fun q => in_iv e12 (h17 q) (by decide) (by decide)) c19
      refine lv_aload_n E.1 E.2.1 dX11_pence_22 rfl (lv_at hl 0 rfl) ?_
      refine t_vi E G hl (v_charges l D K ad z o) 11 (rfl : ro 386 = 11) (by decide) rfl rfl 0 rfl mw_code_X11_charges mw_ini_11 mw_ml_11_394 mw_inst_X11_charges mw_sel_X11_charges hd_X11_charges ⟨Nat.le_trans (by decide) hfr, Nat.le_trans (by decide) hlo⟩ rfl rfl rfl (Nat.le_of_ble_eq_true rfl) dX11_pence_23 (fun r23 zz22 H locs hp24 G => ?_)
      have hz25 := hp24
      rw [hz25] at G
      refine lv_istore_n (lv' := [(3, .int r23), (0, .ref (ad 386)), (1, .int x1), (2, .int x2)]) E.1 E.2.1 dX11_pence_26 rfl hl (by decide) rfl (fun ls hl => ?_)
      refine lv_iload_n E.1 E.2.1 dX11_pence_27 rfl (lv_at hl 0 rfl) ?_
      refine lv_if_ne (tgt := 33) E.1 E.2.1 dX11_pence_28 (by decide) (fun c26 => ?_) (fun c26 => ?_)
      · skip
        refine lv_iload_n E.1 E.2.1 dX11_pence_33 rfl (lv_at hl 2 rfl) ?_
        refine lv_aload_n E.1 E.2.1 dX11_pence_34 rfl (lv_at hl 1 rfl) ?_
        refine lv_iload_n E.1 E.2.1 dX11_pence_35 rfl (lv_at hl 3 rfl) ?_
        refine t_vi E G hl (v_chargeOf l D K ad z o x2 (iv_mono b10 (by decide) (by decide))) 11 (rfl : ro 386 = 11) (by decide) rfl rfl 1 rfl mw_code_X11_chargeOf mw_ini_11 mw_ml_11_294 mw_inst_X11_chargeOf mw_sel_X11_chargeOf hd_X11_chargeOf ⟨Nat.le_trans (by decide) hfr, Nat.le_trans (by decide) hlo⟩ rfl rfl rfl (Nat.le_of_ble_eq_true rfl) dX11_pence_36 (fun r28 zz27 H locs hp29 G => ?_)
        have hz30 := hp29
        rw [hz30] at G
        refine lv_imul E.1 E.2.1 dX11_pence_39 ?_
        refine lv_topi (fun v31 e32 => ?_)
        refine lv_istore (lv' := [(4, .int v31), (3, .int r23), (0, .ref (ad 386)), (1, .int x1), (2, .int x2)]) E.1 E.2.1 dX11_pence_40 hl (by decide) rfl (fun ls hl => ?_)
        refine lv_iload_n E.1 E.2.1 dX11_pence_42 rfl (lv_at hl 3 rfl) ?_
        refine lv_istore (lv' := [(5, .int x1), (4, .int v31), (3, .int r23), (0, .ref (ad 386)), (1, .int x1), (2, .int x2)]) E.1 E.2.1 dX11_pence_43 hl (by decide) rfl (fun ls hl => ?_)
        refine lv_iconst (v := 0) E.1 E.2.1 dX11_pence_45 (by decide) ?_
        refine lv_istore (lv' := [(6, .int 0), (5, .int x1), (4, .int v31), (3, .int r23), (0, .ref (ad 386)), (1, .int x1), (2, .int x2)]) E.1 E.2.1 dX11_pence_46 hl (by decide) rfl (fun ls hl => ?_)
        refine lv_iconst (v := 0) E.1 E.2.1 dX11_pence_48 (by decide) ?_
        refine lv_istore (lv' := [(7, .int 0), (6, .int 0), (5, .int x1), (4, .int v31), (3, .int r23), (0, .ref (ad 386)), (1, .int x1), (2, .int x2)]) E.1 E.2.1 dX11_pence_49 hl (by decide) rfl (fun ls hl => ?_)
        have LOOP51 : ∀ n : Nat, ∀ (y33 : Int32) (y34 : Int32) (y35 : Int32) (H : Heap) (locs : List Loc) (ls : Array Slot), mG D A s H locs (wd K ad z) → iv 0 5 y33 → 5 < y33.toInt + (n : Int) → lv_has ls 9 [(7, .int y33), (6, .int y34), (5, .int y35), (4, .int v31), (3, .int r23), (0, .ref (ad 386)), (1, .int x1), (2, .int x2)] → W p l e R s m args below meth c H locs 0 0 Q (F0 m 51 ls []) := by
          intro n
          induction n with
          | zero =>
            intro y33 y34 y35 H locs ls G b40 m39 hl
            exact absurd m39 (by have := b40.1; have := b40.2; omega)
          | succ n ih51 =>
            intro y33 y34 y35 H locs ls G b40 m39 hl
            refine lv_iload E.1 E.2.1 dX11_pence_51 (lv_at hl 0 rfl) ?_
            refine lv_aload_n E.1 E.2.1 dX11_pence_53 rfl (lv_at hl 5 rfl) ?_
            refine t_get E G 11 20 (rfl : ro 386 = 11) (C := RX11) (T := TX11) (N := 37) rfl (by decide) (by decide) (by decide) mw_fl_11_39 (v := .ref (ad 396)) (fvl_o (n := 10) rfl) dX11_pence_54 ?_
            refine lv_iconst (v := 4) E.1 E.2.1 dX11_pence_57 (by decide) ?_
            refine t_iald E G 54 (rfl : ro 396 = 54) (by decide) (by decide) rfl (n := 127) rfl (by unfold vp_in; decide) dX11_pence_58 ?_
            refine lv_topi (fun v41 e42 => ?_)
            have b43 : iv 0 5 v41 := by rw [e42]; exact iv_mono (o.a 54 (rfl : ro 396 = 54) _) (by decide +kernel) (by decide +kernel)
            refine lv_icmp_ge (tgt := 125) E.1 E.2.1 dX11_pence_59 (by decide) (fun c44 => ?_) (fun c44 => ?_)
            · skip
              refine lv_iload E.1 E.2.1 dX11_pence_125 (lv_at hl 3 rfl) ?_
              refine lv_iload_n E.1 E.2.1 dX11_pence_127 rfl (lv_at hl 4 rfl) ?_
              refine lv_idiv E.1 E.2.1 dX11_pence_128 c26 ?_
              refine lv_topi (fun v45 e46 => ?_)
              refine lv_iload E.1 E.2.1 dX11_pence_129 (lv_at hl 1 rfl) ?_
              refine lv_iload E.1 E.2.1 dX11_pence_131 (lv_at hl 2 rfl) ?_
              refine lv_icmp_ge (tgt := 140) E.1 E.2.1 dX11_pence_133 (by decide) (fun c47 => ?_) (fun c47 => ?_)
              · skip
                refine lv_iconst (v := 0) E.1 E.2.1 dX11_pence_140 (by decide) ?_
                refine lv_iadd E.1 E.2.1 dX11_pence_141 ?_
                refine lv_topi (fun v48 e49 => ?_)
                have l50 : v48.toInt = 0 + 1 * v45.toInt := (show v48.toInt = v45.toInt + 0 by rw [e49]; exact ti_addc 0 (by decide) (iv_full v45) (by decide) (by decide)).trans (by omega)
                exact RET G rfl rfl dX11_pence_142
              · skip
                have b51 : iv (-2147483648) 2147483646 y34 := lt_l (Int32.not_le.mp c47) (iv_full y34) (iv_full y35) (by decide)
                have b52 : iv (-2147483647) 2147483647 y35 := lt_r (Int32.not_le.mp c47) (iv_full y34) (iv_full y35) (by decide)
                refine lv_iconst (v := 1) E.1 E.2.1 dX11_pence_136 (by decide) ?_
                refine lv_goto (tgt := 141) E.1 E.2.1 dX11_pence_137 (by decide) ?_
                refine lv_iadd E.1 E.2.1 dX11_pence_141 ?_
                refine lv_topi (fun v53 e54 => ?_)
                exact RET G rfl rfl dX11_pence_142
            · skip
              have b55 : iv 0 4 y33 := lt_l (Int32.not_le.mp c44) b40 b43 (by decide)
              have b56 : iv 1 5 v41 := lt_r (Int32.not_le.mp c44) b40 b43 (by decide)
              refine lv_iload_n E.1 E.2.1 dX11_pence_62 rfl (lv_at hl 6 rfl) ?_
              refine lv_aload_n E.1 E.2.1 dX11_pence_63 rfl (lv_at hl 5 rfl) ?_
              refine lv_iload E.1 E.2.1 dX11_pence_64 (lv_at hl 0 rfl) ?_
              refine t_vi E G hl (v_chargeOf l D K ad z o y33 (iv_mono b55 (by decide) (by decide))) 11 (rfl : ro 386 = 11) (by decide) rfl rfl 1 rfl mw_code_X11_chargeOf mw_ini_11 mw_ml_11_294 mw_inst_X11_chargeOf mw_sel_X11_chargeOf hd_X11_chargeOf ⟨Nat.le_trans (by decide) hfr, Nat.le_trans (by decide) hlo⟩ rfl rfl rfl (Nat.le_of_ble_eq_true rfl) dX11_pence_66 (fun r58 zz57 H locs hp59 G => ?_)
              have hz60 := hp59
              rw [hz60] at G
              refine lv_imul E.1 E.2.1 dX11_pence_69 ?_
              refine lv_topi (fun v61 e62 => ?_)
              refine lv_istore (lv' := [(8, .int v61), (7, .int y33), (6, .int y34), (5, .int y35), (4, .int v31), (3, .int r23), (0, .ref (ad 386)), (1, .int x1), (2, .int x2)]) E.1 E.2.1 dX11_pence_70 hl (by decide) rfl (fun ls hl => ?_)
              refine lv_iload E.1 E.2.1 dX11_pence_72 (lv_at hl 3 rfl) ?_
              refine lv_iload E.1 E.2.1 dX11_pence_74 (lv_at hl 0 rfl) ?_
              refine lv_iload_n E.1 E.2.1 dX11_pence_76 rfl (lv_at hl 5 rfl) ?_
              refine lv_idiv E.1 E.2.1 dX11_pence_77 c26 ?_
              refine lv_topi (fun v63 e64 => ?_)
              refine lv_isub E.1 E.2.1 dX11_pence_78 ?_
              refine lv_topi (fun v65 e66 => ?_)
              refine lv_istore (lv' := [(5, .int v65), (8, .int v61), (7, .int y33), (6, .int y34), (4, .int v31), (3, .int r23), (0, .ref (ad 386)), (1, .int x1), (2, .int x2)]) E.1 E.2.1 dX11_pence_79 hl (by decide) rfl (fun ls hl => ?_)
              refine lv_iload E.1 E.2.1 dX11_pence_81 (lv_at hl 3 rfl) ?_
              refine lv_iload E.1 E.2.1 dX11_pence_83 (lv_at hl 1 rfl) ?_
              refine lv_iload_n E.1 E.2.1 dX11_pence_85 rfl (lv_at hl 5 rfl) ?_
              refine lv_irem E.1 E.2.1 dX11_pence_86 c26 ?_
              refine lv_topi (fun v67 e68 => ?_)
              refine lv_iload E.1 E.2.1 dX11_pence_87 (lv_at hl 4 rfl) ?_
              refine lv_iload_n E.1 E.2.1 dX11_pence_89 rfl (lv_at hl 5 rfl) ?_
              refine lv_irem E.1 E.2.1 dX11_pence_90 c26 ?_
              refine lv_topi (fun v69 e70 => ?_)
              refine lv_icmp_gt (tgt := 111) E.1 E.2.1 dX11_pence_91 (by decide) (fun c71 => ?_) (fun c71 => ?_)
              · skip
                have b72 : iv (-2147483648) 2147483646 v69 := lt_l c71 (iv_full v69) (iv_full v67) (by decide)
                have b73 : iv (-2147483647) 2147483647 v67 := lt_r c71 (iv_full v69) (iv_full v67) (by decide)
                refine lv_iconst (v := 1) E.1 E.2.1 dX11_pence_111 (by decide) ?_
                refine lv_goto (tgt := 116) E.1 E.2.1 dX11_pence_112 (by decide) ?_
                refine lv_iadd E.1 E.2.1 dX11_pence_116 ?_
                refine lv_topi (fun v74 e75 => ?_)
                refine lv_istore (lv' := [(6, .int v74), (5, .int v65), (8, .int v61), (7, .int y33), (4, .int v31), (3, .int r23), (0, .ref (ad 386)), (1, .int x1), (2, .int x2)]) E.1 E.2.1 dX11_pence_117 hl (by decide) rfl (fun ls hl => ?_)
                obtain ⟨v76, e77⟩ : ∃ w : Int32, w = y33 + (1 : Int32) := ⟨_, rfl⟩
                refine lv_iinc (v := v76) (lv' := [(7, .int v76), (6, .int v74), (5, .int v65), (8, .int v61), (4, .int v31), (3, .int r23), (0, .ref (ad 386)), (1, .int x1), (2, .int x2)]) E.1 E.2.1 dX11_pence_119 hl (k := 3) rfl (by rw [e77]; rfl) (by decide) rfl (fun ls hl => ?_)
                have b78 : iv 1 5 v76 := by rw [e77]; exact iv_add b55 (iv_lit (lo := 1) (hi := 1) 1 (by decide) (by decide)) (by decide) (by decide) (by decide) (by decide)
                have t79 : v76.toInt = y33.toInt + 1 := by rw [e77]; exact ti_addc 1 (by decide) b55 (by decide) (by decide)
                refine lv_goto (tgt := 51) E.1 E.2.1 dX11_pence_122 (by decide) ?_
                exact ih51 v76 v74 v65 H locs ls G (iv_mono b78 (by decide) (by decide)) (by have := t79; have := m39; omega) (lv_sub hl [0, 1, 2, 4, 5, 6, 7, 8] rfl)
              · skip
                refine lv_iload E.1 E.2.1 dX11_pence_94 (lv_at hl 1 rfl) ?_
                refine lv_iload_n E.1 E.2.1 dX11_pence_96 rfl (lv_at hl 5 rfl) ?_
                refine lv_irem E.1 E.2.1 dX11_pence_97 c26 ?_
                refine lv_topi (fun v80 e81 => ?_)
                refine lv_iload E.1 E.2.1 dX11_pence_98 (lv_at hl 4 rfl) ?_
                refine lv_iload_n E.1 E.2.1 dX11_pence_100 rfl (lv_at hl 5 rfl) ?_
                refine lv_irem E.1 E.2.1 dX11_pence_101 c26 ?_
                refine lv_topi (fun v82 e83 => ?_)
                refine lv_icmp_ne (tgt := 115) E.1 E.2.1 dX11_pence_102 (by decide) (fun c84 => ?_) (fun c84 => ?_)
                · skip
                  refine lv_iconst (v := 0) E.1 E.2.1 dX11_pence_115 (by decide) ?_
                  refine lv_iadd E.1 E.2.1 dX11_pence_116 ?_
                  refine lv_topi (fun v85 e86 => ?_)
                  have l87 : v85.toInt = 0 + 1 * y34.toInt := (show v85.toInt = y34.toInt + 0 by rw [e86]; exact ti_addc 0 (by decide) (iv_full y34) (by decide) (by decide)).trans (by omega)
                  refine lv_istore (lv' := [(6, .int v85), (5, .int v65), (8, .int v61), (7, .int y33), (4, .int v31), (3, .int r23), (0, .ref (ad 386)), (1, .int x1), (2, .int x2)]) E.1 E.2.1 dX11_pence_117 hl (by decide) rfl (fun ls hl => ?_)
                  obtain ⟨v88, e89⟩ : ∃ w : Int32, w = y33 + (1 : Int32) := ⟨_, rfl⟩
                  refine lv_iinc (v := v88) (lv' := [(7, .int v88), (6, .int v85), (5, .int v65), (8, .int v61), (4, .int v31), (3, .int r23), (0, .ref (ad 386)), (1, .int x1), (2, .int x2)]) E.1 E.2.1 dX11_pence_119 hl (k := 3) rfl (by rw [e89]; rfl) (by decide) rfl (fun ls hl => ?_)
                  have b90 : iv 1 5 v88 := by rw [e89]; exact iv_add b55 (iv_lit (lo := 1) (hi := 1) 1 (by decide) (by decide)) (by decide) (by decide) (by decide) (by decide)
                  have t91 : v88.toInt = y33.toInt + 1 := by rw [e89]; exact ti_addc 1 (by decide) b55 (by decide) (by decide)
                  refine lv_goto (tgt := 51) E.1 E.2.1 dX11_pence_122 (by decide) ?_
                  exact ih51 v88 v85 v65 H locs ls G (iv_mono b90 (by decide) (by decide)) (by have := t91; have := m39; omega) (lv_sub hl [0, 1, 2, 4, 5, 6, 7, 8] rfl)
                · skip
                  refine lv_iload E.1 E.2.1 dX11_pence_105 (lv_at hl 2 rfl) ?_
                  refine lv_iload_n E.1 E.2.1 dX11_pence_107 rfl (lv_at hl 8 rfl) ?_
                  refine lv_icmp_ge (tgt := 115) E.1 E.2.1 dX11_pence_108 (by decide) (fun c92 => ?_) (fun c92 => ?_)
                  · skip
                    refine lv_iconst (v := 0) E.1 E.2.1 dX11_pence_115 (by decide) ?_
                    refine lv_iadd E.1 E.2.1 dX11_pence_116 ?_
                    refine lv_topi (fun v93 e94 => ?_)
                    have l95 : v93.toInt = 0 + 1 * y34.toInt := (show v93.toInt = y34.toInt + 0 by rw [e94]; exact ti_addc 0 (by decide) (iv_full y34) (by decide) (by decide)).trans (by omega)
                    refine lv_istore (lv' := [(6, .int v93), (5, .int v65), (8, .int v61), (7, .int y33), (4, .int v31), (3, .int r23), (0, .ref (ad 386)), (1, .int x1), (2, .int x2)]) E.1 E.2.1 dX11_pence_117 hl (by decide) rfl (fun ls hl => ?_)
                    obtain ⟨v96, e97⟩ : ∃ w : Int32, w = y33 + (1 : Int32) := ⟨_, rfl⟩
                    refine lv_iinc (v := v96) (lv' := [(7, .int v96), (6, .int v93), (5, .int v65), (8, .int v61), (4, .int v31), (3, .int r23), (0, .ref (ad 386)), (1, .int x1), (2, .int x2)]) E.1 E.2.1 dX11_pence_119 hl (k := 3) rfl (by rw [e97]; rfl) (by decide) rfl (fun ls hl => ?_)
                    have b98 : iv 1 5 v96 := by rw [e97]; exact iv_add b55 (iv_lit (lo := 1) (hi := 1) 1 (by decide) (by decide)) (by decide) (by decide) (by decide) (by decide)
                    have t99 : v96.toInt = y33.toInt + 1 := by rw [e97]; exact ti_addc 1 (by decide) b55 (by decide) (by decide)
                    refine lv_goto (tgt := 51) E.1 E.2.1 dX11_pence_122 (by decide) ?_
                    exact ih51 v96 v93 v65 H locs ls G (iv_mono b98 (by decide) (by decide)) (by have := t99; have := m39; omega) (lv_sub hl [0, 1, 2, 4, 5, 6, 7, 8] rfl)
                  · skip
                    have b100 : iv 0 3 y33 := lt_l (Int32.not_le.mp c92) b55 b10 (by decide)
                    have b101 : iv 1 4 x2 := lt_r (Int32.not_le.mp c92) b55 b10 (by decide)
                    refine lv_iconst (v := 1) E.1 E.2.1 dX11_pence_111 (by decide) ?_
                    refine lv_goto (tgt := 116) E.1 E.2.1 dX11_pence_112 (by decide) ?_
                    refine lv_iadd E.1 E.2.1 dX11_pence_116 ?_
                    refine lv_topi (fun v102 e103 => ?_)
                    refine lv_istore (lv' := [(6, .int v102), (5, .int v65), (8, .int v61), (7, .int y33), (4, .int v31), (3, .int r23), (0, .ref (ad 386)), (1, .int x1), (2, .int x2)]) E.1 E.2.1 dX11_pence_117 hl (by decide) rfl (fun ls hl => ?_)
                    obtain ⟨v104, e105⟩ : ∃ w : Int32, w = y33 + (1 : Int32) := ⟨_, rfl⟩
                    refine lv_iinc (v := v104) (lv' := [(7, .int v104), (6, .int v102), (5, .int v65), (8, .int v61), (4, .int v31), (3, .int r23), (0, .ref (ad 386)), (1, .int x1), (2, .int x2)]) E.1 E.2.1 dX11_pence_119 hl (k := 3) rfl (by rw [e105]; rfl) (by decide) rfl (fun ls hl => ?_)
                    have b106 : iv 1 4 v104 := by rw [e105]; exact iv_add b100 (iv_lit (lo := 1) (hi := 1) 1 (by decide) (by decide)) (by decide) (by decide) (by decide) (by decide)
                    have t107 : v104.toInt = y33.toInt + 1 := by rw [e105]; exact ti_addc 1 (by decide) b100 (by decide) (by decide)
                    refine lv_goto (tgt := 51) E.1 E.2.1 dX11_pence_122 (by decide) ?_
                    exact ih51 v104 v102 v65 H locs ls G (iv_mono b106 (by decide) (by decide)) (by have := t107; have := m39; omega) (lv_sub hl [0, 1, 2, 4, 5, 6, 7, 8] rfl)
        exact LOOP51 6 0 0 x1 H locs ls G (iv_mono (iv_lit (lo := 0) (hi := 0) 0 (by decide) (by decide)) (by decide) (by decide)) (by have := (iv_lit (lo := 0) (hi := 0) 0 (by decide) (by decide)).1; omega) (lv_sub hl [0, 1, 2, 3, 4, 5, 6, 7] rfl)
      · skip
        have b108 : iv 0 0 r23 := iv_eq c26 (iv_lit (lo := 0) (hi := 0) 0 (by decide) (by decide))
        refine lv_iconst (v := 0) E.1 E.2.1 dX11_pence_31 (by decide) ?_
        exact RET G rfl rfl dX11_pence_32
    · skip
      have b109 : iv 0 0 r14 := iv_eq c19 (iv_lit (lo := 0) (hi := 0) 0 (by decide) (by decide))
      refine lv_iconst (v := (-1)) E.1 E.2.1 dX11_pence_20 (by decide) ?_
      exact RET G rfl rfl dX11_pence_21
set_option maxHeartbeats 4000000 in
set_option maxRecDepth 100000 in
theorem v_note (l : Launch) (D : va_G) (K : Nat → ClassId) (ad : Nat → Nat) (z : TS) (o : Ok z) (x1 : Int32) (x2 : Int32) (x3 : Int32) : cI l yX11_note cX11_note 5 .int ({ frames := 1, cells := 0, slots := 0, locals := 25 }) D K ad z [.ref (ad 386), .int x1, .int x2, .int x3] (fun r u => Ok u ∧ KM z u) := by
  refine t_enterI (by decide) (Nat.le_of_ble_eq_true rfl) rfl rfl ?_
  intro p e s m args below meth c A R Q H locs ls E hfr hlo RET G hl
  have E : mE p s m meth c cX11_note args 5 RX11 D K A := E
  have hl : lv_has ls 5 [(0, .ref (ad 386)), (1, .int x1), (2, .int x2), (3, .int x3)] := hl
  refine lv_iload_n E.1 E.2.1 dX11_note_0 rfl (lv_at hl 1 rfl) ?_
  refine lv_iconst (v := (-1)) E.1 E.2.1 dX11_note_1 (by decide) ?_
  refine lv_icmp_ne (tgt := 15) E.1 E.2.1 dX11_note_2 (by decide) (fun c1 => ?_) (fun c1 => ?_)
  · skip
    refine lv_iload_n E.1 E.2.1 dX11_note_15 rfl (lv_at hl 1 rfl) ?_
    refine lv_i2l E.1 E.2.1 dX11_note_16 rfl ?_
    refine lv_topl (fun v2 e3 => ?_)
    refine lv_lconst (v := 0) E.1 E.2.1 dX11_note_17 (by decide) ?_
    refine lv_ldc2 (v := 60) E.1 E.2.1 E.2.2.2.1 (E.2.2.2.2.1 _ mw_cL_11_429) dX11_note_18 ?_
    refine t_si E G hl (v_in l D K ad z o v2 0 60) 3 rfl mw_code_X11_in mw_ini_11 mw_ml_11_121 mw_stat_X11_in hd_X11_in ⟨Nat.le_trans (by decide) hfr, Nat.le_trans (by decide) hlo⟩ rfl rfl rfl (Nat.le_of_ble_eq_true rfl) dX11_note_21 (fun r5 zz4 H locs hp6 G => ?_)
    obtain ⟨hz9, b7, h8⟩ := hp6
    rw [hz9] at G
    refine lv_if_eq (tgt := 55) E.1 E.2.1 dX11_note_24 (by decide) (fun c10 => ?_) (fun c10 => ?_)
    · skip
      have b11 : iv 0 0 r5 := iv_eq c10 (iv_lit (lo := 0) (hi := 0) 0 (by decide) (by decide))
      refine lv_bipush (v := (-2)) E.1 E.2.1 dX11_note_55 (by decide) ?_
      exact RET G ⟨o, KF.rf⟩ rfl dX11_note_57
    · skip
      have b12 : iv 1 1 r5 := ne_lo c10 b7 (by decide) (by decide)
      have b13 : iv 0 60 x1 := (fun q => in_iv e3 (h8 q) (by decide) (by decide)) c10
      refine lv_aload_n E.1 E.2.1 dX11_note_27 rfl (lv_at hl 0 rfl) ?_
      refine lv_iload_n E.1 E.2.1 dX11_note_28 rfl (lv_at hl 2 rfl) ?_
      refine t_vi E G hl (v_isWalker l D K ad z o x2) 11 (rfl : ro 386 = 11) (by decide) rfl rfl 1 rfl mw_code_X11_isWalker mw_ini_11 mw_ml_11_317 mw_inst_X11_isWalker mw_sel_X11_isWalker hd_X11_isWalker ⟨Nat.le_trans (by decide) hfr, Nat.le_trans (by decide) hlo⟩ rfl rfl rfl (Nat.le_of_ble_eq_true rfl) dX11_note_29 (fun r15 zz14 H locs hp16 G => ?_)
      obtain ⟨hz19, b17, h18⟩ := hp16
      rw [hz19] at G
      refine lv_if_eq (tgt := 55) E.1 E.2.1 dX11_note_32 (by decide) (fun c20 => ?_) (fun c20 => ?_)
      · skip
        have b21 : iv 0 0 r15 := iv_eq c20 (iv_lit (lo := 0) (hi := 0) 0 (by decide) (by decide))
        refine lv_bipush (v := (-2)) E.1 E.2.1 dX11_note_55 (by decide) ?_
        exact RET G ⟨o, KF.rf⟩ rfl dX11_note_57
      · skip
        have b22 : iv 1 1 r15 := ne_lo c20 b17 (by decide) (by decide)
        have b23 : iv 0 4 x2 := h18 c20
        refine lv_aload_n E.1 E.2.1 dX11_note_35 rfl (lv_at hl 0 rfl) ?_
        refine lv_iload_n E.1 E.2.1 dX11_note_36 rfl (lv_at hl 3 rfl) ?_
        refine t_vi E G hl (v_isCorner l D K ad z o x3) 11 (rfl : ro 386 = 11) (by decide) rfl rfl 1 rfl mw_code_X11_isCorner mw_ini_11 mw_ml_11_323 mw_inst_X11_isCorner mw_sel_X11_isCorner hd_X11_isCorner ⟨Nat.le_trans (by decide) hfr, Nat.le_trans (by decide) hlo⟩ rfl rfl rfl (Nat.le_of_ble_eq_true rfl) dX11_note_37 (fun r25 zz24 H locs hp26 G => ?_)
        obtain ⟨hz29, b27, h28⟩ := hp26
        rw [hz29] at G
        refine lv_if_eq (tgt := 55) E.1 E.2.1 dX11_note_40 (by decide) (fun c30 => ?_) (fun c30 => ?_)
        · skip
          have b31 : iv 0 0 r25 := iv_eq c30 (iv_lit (lo := 0) (hi := 0) 0 (by decide) (by decide))
          refine lv_bipush (v := (-2)) E.1 E.2.1 dX11_note_55 (by decide) ?_
          exact RET G ⟨o, KF.rf⟩ rfl dX11_note_57
        · skip
          have b32 : iv 1 1 r25 := ne_lo c30 b27 (by decide) (by decide)
          have b33 : iv 0 7 x3 := h28 c30
          refine lv_aload_n E.1 E.2.1 dX11_note_43 rfl (lv_at hl 0 rfl) ?_
          refine t_get E G 11 20 (rfl : ro 386 = 11) (C := RX11) (T := TX11) (N := 37) rfl (by decide) (by decide) (by decide) mw_fl_11_39 (v := .ref (ad 396)) (fvl_o (n := 10) rfl) dX11_note_44 ?_
          refine lv_bipush (v := 126) E.1 E.2.1 dX11_note_47 (by decide) ?_
          refine t_iald E G 54 (rfl : ro 396 = 54) (by decide) (by decide) rfl (n := 127) rfl (by unfold vp_in; decide) dX11_note_49 ?_
          refine lv_topi (fun v34 e35 => ?_)
          have b36 : iv 0 10 v34 := by rw [e35]; exact iv_mono (o.a 54 (rfl : ro 396 = 54) _) (by decide +kernel) (by decide +kernel)
          refine lv_bipush (v := 10) E.1 E.2.1 dX11_note_50 (by decide) ?_
          refine lv_icmp_ne (tgt := 58) E.1 E.2.1 dX11_note_52 (by decide) (fun c37 => ?_) (fun c37 => ?_)
          · skip
            have b38 : iv 0 9 v34 := ne_hi c37 b36 (by decide) (by decide)
            refine lv_bipush (v := 96) E.1 E.2.1 dX11_note_58 (by decide) ?_
            refine lv_iconst (v := 3) E.1 E.2.1 dX11_note_60 (by decide) ?_
            refine lv_aload_n E.1 E.2.1 dX11_note_61 rfl (lv_at hl 0 rfl) ?_
            refine t_get E G 11 20 (rfl : ro 386 = 11) (C := RX11) (T := TX11) (N := 37) rfl (by decide) (by decide) (by decide) mw_fl_11_39 (v := .ref (ad 396)) (fvl_o (n := 10) rfl) dX11_note_62 ?_
            refine lv_bipush (v := 126) E.1 E.2.1 dX11_note_65 (by decide) ?_
            refine t_iald E G 54 (rfl : ro 396 = 54) (by decide) (by decide) rfl (n := 127) rfl (by unfold vp_in; decide) dX11_note_67 ?_
            refine m_ci v34 e35.symm ?_
            refine lv_imul E.1 E.2.1 dX11_note_68 ?_
            refine lv_topi (fun v39 e40 => ?_)
            have b41 : iv 0 27 v39 := by rw [e40]; exact iv_mulc' b38 3 (by decide) (by decide) (by decide) (by decide) (by decide) (by decide)
            have l42 : v39.toInt = 0 + 3 * v34.toInt := (show v39.toInt = 3 * v34.toInt by rw [e40]; exact ti_cmul 3 (by decide) (by decide) b38 (by decide) (by decide)).trans (by omega)
            refine lv_iadd E.1 E.2.1 dX11_note_69 ?_
            refine lv_topi (fun v43 e44 => ?_)
            have b45 : iv 96 123 v43 := by rw [e44]; exact iv_add (iv_lit (lo := 96) (hi := 96) 96 (by decide) (by decide)) b41 (by decide) (by decide) (by decide) (by decide)
            have l46 : v43.toInt = 96 + 3 * v34.toInt := (show v43.toInt = 96 + v39.toInt by rw [e44]; exact ti_cadd 96 (by decide) b41 (by decide) (by decide)).trans (by omega)
            refine lv_istore (lv' := [(4, .int v43), (0, .ref (ad 386)), (1, .int x1), (2, .int x2), (3, .int x3)]) E.1 E.2.1 dX11_note_70 hl (by decide) rfl (fun ls hl => ?_)
            refine lv_aload_n E.1 E.2.1 dX11_note_72 rfl (lv_at hl 1 rfl) ?_
            refine t_get E G 11 20 (rfl : ro 386 = 11) (C := RX11) (T := TX11) (N := 37) rfl (by decide) (by decide) (by decide) mw_fl_11_39 (v := .ref (ad 396)) (fvl_o (n := 10) rfl) dX11_note_73 ?_
            refine lv_iload E.1 E.2.1 dX11_note_76 (lv_at hl 0 rfl) ?_
            refine lv_iload_n E.1 E.2.1 dX11_note_78 rfl (lv_at hl 2 rfl) ?_
            refine t_iast E G 54 (rfl : ro 396 = 54) (by decide) (by decide) rfl (n := 127) rfl (iv_vp b45 (by decide) (by decide)) dX11_note_79 (fun H locs G => ?_)
            obtain ⟨zz48, G, oo49, kk50, h47⟩ : ∃ u : TS, mG D A s H locs (wd K ad u) ∧ Ok u ∧ KM z u ∧ (tA u 396 (126 : Int32).toNatClampNeg = v34) := ⟨_, G, ok_u o 54 (rfl : ro 396 = 54) (wr1 96 3 0 9 b13 b38 (l46.trans (by omega)) (by decide +kernel)) (by decide), KF.tr KF.rf (KF_r 54 (rfl : ro 396 = 54) (by decide)), (sR_n e35.symm (cl_ne b45 126 (by decide)))⟩
            refine lv_aload_n E.1 E.2.1 dX11_note_80 rfl (lv_at hl 1 rfl) ?_
            refine t_get E G 11 20 (rfl : ro 386 = 11) (C := RX11) (T := TX11) (N := 37) rfl (by decide) (by decide) (by decide) mw_fl_11_39 (v := .ref (ad 396)) (fvl_o (n := 10) rfl) dX11_note_81 ?_
            refine lv_iload E.1 E.2.1 dX11_note_84 (lv_at hl 0 rfl) ?_
            refine lv_iconst (v := 1) E.1 E.2.1 dX11_note_86 (by decide) ?_
            refine lv_iadd E.1 E.2.1 dX11_note_87 ?_
            refine lv_topi (fun v51 e52 => ?_)
            have b53 : iv 97 124 v51 := by rw [e52]; exact iv_add b45 (iv_lit (lo := 1) (hi := 1) 1 (by decide) (by decide)) (by decide) (by decide) (by decide) (by decide)
            have l54 : v51.toInt = 97 + 3 * v34.toInt := (show v51.toInt = v43.toInt + 1 by rw [e52]; exact ti_addc 1 (by decide) b45 (by decide) (by decide)).trans (by omega)
            refine lv_iload_n E.1 E.2.1 dX11_note_88 rfl (lv_at hl 3 rfl) ?_
            refine t_iast E G 54 (rfl : ro 396 = 54) (by decide) (by decide) rfl (n := 127) rfl (iv_vp b53 (by decide) (by decide)) dX11_note_89 (fun H locs G => ?_)
            obtain ⟨zz56, G, oo57, kk58, h55⟩ : ∃ u : TS, mG D A s H locs (wd K ad u) ∧ Ok u ∧ KM z u ∧ (tA u 396 (126 : Int32).toNatClampNeg = v34) := ⟨_, G, ok_u oo49 54 (rfl : ro 396 = 54) (wr1 97 3 0 9 b23 b38 (l54.trans (by omega)) (by decide +kernel)) (by decide), KF.tr kk50 (KF_r 54 (rfl : ro 396 = 54) (by decide)), (sR_n h47 (cl_ne b53 126 (by decide)))⟩
            refine lv_aload_n E.1 E.2.1 dX11_note_90 rfl (lv_at hl 1 rfl) ?_
            refine t_get E G 11 20 (rfl : ro 386 = 11) (C := RX11) (T := TX11) (N := 37) rfl (by decide) (by decide) (by decide) mw_fl_11_39 (v := .ref (ad 396)) (fvl_o (n := 10) rfl) dX11_note_91 ?_
            refine lv_iload E.1 E.2.1 dX11_note_94 (lv_at hl 0 rfl) ?_
            refine lv_iconst (v := 2) E.1 E.2.1 dX11_note_96 (by decide) ?_
            refine lv_iadd E.1 E.2.1 dX11_note_97 ?_
            refine lv_topi (fun v59 e60 => ?_)
            have b61 : iv 98 125 v59 := by rw [e60]; exact iv_add b45 (iv_lit (lo := 2) (hi := 2) 2 (by decide) (by decide)) (by decide) (by decide) (by decide) (by decide)
            have l62 : v59.toInt = 98 + 3 * v34.toInt := (show v59.toInt = v43.toInt + 2 by rw [e60]; exact ti_addc 2 (by decide) b45 (by decide) (by decide)).trans (by omega)
            refine lv_iload_n E.1 E.2.1 dX11_note_98 rfl (lv_at hl 4 rfl) ?_
            refine t_iast E G 54 (rfl : ro 396 = 54) (by decide) (by decide) rfl (n := 127) rfl (iv_vp b61 (by decide) (by decide)) dX11_note_99 (fun H locs G => ?_)
            obtain ⟨zz64, G, oo65, kk66, h63⟩ : ∃ u : TS, mG D A s H locs (wd K ad u) ∧ Ok u ∧ KM z u ∧ (tA u 396 (126 : Int32).toNatClampNeg = v34) := ⟨_, G, ok_u oo57 54 (rfl : ro 396 = 54) (wr1 98 3 0 9 b33 b38 (l62.trans (by omega)) (by decide +kernel)) (by decide), KF.tr kk58 (KF_r 54 (rfl : ro 396 = 54) (by decide)), (sR_n h55 (cl_ne b61 126 (by decide)))⟩
            refine lv_aload_n E.1 E.2.1 dX11_note_100 rfl (lv_at hl 1 rfl) ?_
            refine t_get E G 11 20 (rfl : ro 386 = 11) (C := RX11) (T := TX11) (N := 37) rfl (by decide) (by decide) (by decide) mw_fl_11_39 (v := .ref (ad 396)) (fvl_o (n := 10) rfl) dX11_note_101 ?_
            refine lv_bipush (v := 126) E.1 E.2.1 dX11_note_104 (by decide) ?_
            refine lv_dup2_11 E.1 E.2.1 dX11_note_106 rfl rfl ?_
            refine t_iald E G 54 (rfl : ro 396 = 54) (by decide) (by decide) rfl (n := 127) rfl (by unfold vp_in; decide) dX11_note_107 ?_
            refine m_ci v34 h63 ?_
            refine lv_iconst (v := 1) E.1 E.2.1 dX11_note_108 (by decide) ?_
            refine lv_iadd E.1 E.2.1 dX11_note_109 ?_
            refine lv_topi (fun v67 e68 => ?_)
            have b69 : iv 1 10 v67 := by rw [e68]; exact iv_add b38 (iv_lit (lo := 1) (hi := 1) 1 (by decide) (by decide)) (by decide) (by decide) (by decide) (by decide)
            have l70 : v67.toInt = 1 + 1 * v34.toInt := (show v67.toInt = v34.toInt + 1 by rw [e68]; exact ti_addc 1 (by decide) b38 (by decide) (by decide)).trans (by omega)
            refine t_iast E G 54 (rfl : ro 396 = 54) (by decide) (by decide) rfl (n := 127) rfl (by unfold vp_in; decide) dX11_note_110 (fun H locs G => ?_)
            obtain ⟨zz71, G, oo72, kk73⟩ : ∃ u : TS, mG D A s H locs (wd K ad u) ∧ Ok u ∧ KM z u := ⟨_, G, ok_u oo65 54 (rfl : ro 396 = 54) (iv_mono b69 (by decide +kernel) (by decide +kernel)) (by decide), KF.tr kk66 (KF_r 54 (rfl : ro 396 = 54) (by decide))⟩
            refine lv_aload_n E.1 E.2.1 dX11_note_111 rfl (lv_at hl 1 rfl) ?_
            refine t_get E G 11 20 (rfl : ro 386 = 11) (C := RX11) (T := TX11) (N := 37) rfl (by decide) (by decide) (by decide) mw_fl_11_39 (v := .ref (ad 396)) (fvl_o (n := 10) rfl) dX11_note_112 ?_
            refine lv_bipush (v := 126) E.1 E.2.1 dX11_note_115 (by decide) ?_
            refine t_iald E G 54 (rfl : ro 396 = 54) (by decide) (by decide) rfl (n := 127) rfl (by unfold vp_in; decide) dX11_note_117 ?_
            refine lv_topi (fun v74 e75 => ?_)
            have b76 : iv 0 10 v74 := by rw [e75]; exact iv_mono (oo72.a 54 (rfl : ro 396 = 54) _) (by decide +kernel) (by decide +kernel)
            exact RET G ⟨oo72, kk73⟩ rfl dX11_note_118
          · skip
            have b77 : iv 10 10 v34 := iv_eq c37 (iv_lit (lo := 10) (hi := 10) 10 (by decide) (by decide))
            refine lv_bipush (v := (-2)) E.1 E.2.1 dX11_note_55 (by decide) ?_
            exact RET G ⟨o, KF.rf⟩ rfl dX11_note_57
  · skip
    have b78 : iv (-1) (-1) x1 := iv_eq c1 (iv_lit (lo := (-1)) (hi := (-1)) (-1) (by decide) (by decide))
    refine lv_aload_n E.1 E.2.1 dX11_note_5 rfl (lv_at hl 0 rfl) ?_
    refine t_get E G 11 20 (rfl : ro 386 = 11) (C := RX11) (T := TX11) (N := 37) rfl (by decide) (by decide) (by decide) mw_fl_11_39 (v := .ref (ad 396)) (fvl_o (n := 10) rfl) dX11_note_6 ?_
    refine lv_bipush (v := 126) E.1 E.2.1 dX11_note_9 (by decide) ?_
    refine lv_iconst (v := 0) E.1 E.2.1 dX11_note_11 (by decide) ?_
    refine t_iast E G 54 (rfl : ro 396 = 54) (by decide) (by decide) rfl (n := 127) rfl (by unfold vp_in; decide) dX11_note_12 (fun H locs G => ?_)
    obtain ⟨zz79, G, oo80, kk81⟩ : ∃ u : TS, mG D A s H locs (wd K ad u) ∧ Ok u ∧ KM z u := ⟨_, G, ok_u o 54 (rfl : ro 396 = 54) (iv_mono (iv_lit (lo := 0) (hi := 0) 0 (by decide) (by decide)) (by decide +kernel) (by decide +kernel)) (by decide), KF.tr KF.rf (KF_r 54 (rfl : ro 396 = 54) (by decide))⟩
    refine lv_iconst (v := 0) E.1 E.2.1 dX11_note_13 (by decide) ?_
    exact RET G ⟨oo80, kk81⟩ rfl dX11_note_14
set_option maxHeartbeats 4000000 in
set_option maxRecDepth 100000 in
theorem v_alikeAt (l : Launch) (D : va_G) (K : Nat → ClassId) (ad : Nat → Nat) (z : TS) (o : Ok z) (x1 : Int32) (bx1 : iv 0 4 x1) : cI l yX11_alikeAt cX11_alikeAt 6 .int ({ frames := 0, cells := 0, slots := 0, locals := 0 }) D K ad z [.ref (ad 386), .int x1] (fun r u => u = z) := by
  refine t_enterI (by decide) (Nat.le_of_ble_eq_true rfl) rfl rfl ?_
  intro p e s m args below meth c A R Q H locs ls E hfr hlo RET G hl
  have E : mE p s m meth c cX11_alikeAt args 6 RX11 D K A := E
  have hl : lv_has ls 6 [(0, .ref (ad 386)), (1, .int x1)] := hl
  refine lv_iconst (v := 0) E.1 E.2.1 dX11_alikeAt_0 (by decide) ?_
  refine lv_istore_n (lv' := [(2, .int 0), (0, .ref (ad 386)), (1, .int x1)]) E.1 E.2.1 dX11_alikeAt_1 rfl hl (by decide) rfl (fun ls hl => ?_)
  refine lv_iconst (v := 0) E.1 E.2.1 dX11_alikeAt_2 (by decide) ?_
  refine lv_istore_n (lv' := [(3, .int 0), (2, .int 0), (0, .ref (ad 386)), (1, .int x1)]) E.1 E.2.1 dX11_alikeAt_3 rfl hl (by decide) rfl (fun ls hl => ?_)
  have LOOP4 : ∀ n : Nat, ∀ (y1 : Int32) (y2 : Int32) (H : Heap) (locs : List Loc) (ls : Array Slot), mG D A s H locs (wd K ad z) → iv 0 7 y1 → 7 < y1.toInt + (n : Int) → lv_has ls 6 [(3, .int y1), (2, .int y2), (0, .ref (ad 386)), (1, .int x1)] → W p l e R s m args below meth c H locs 0 0 Q (F0 m 4 ls []) := by
    intro n
    induction n with
    | zero =>
      intro y1 y2 H locs ls G b7 m6 hl
      exact absurd m6 (by have := b7.1; have := b7.2; omega)
    | succ n ih4 =>
      intro y1 y2 H locs ls G b7 m6 hl
      refine lv_iload_n E.1 E.2.1 dX11_alikeAt_4 rfl (lv_at hl 0 rfl) ?_
      refine lv_aload_n E.1 E.2.1 dX11_alikeAt_5 rfl (lv_at hl 2 rfl) ?_
      refine t_get E G 11 2 (rfl : ro 386 = 11) (C := RX11) (T := TX11) (N := 37) rfl (by decide) (by decide) (by decide) mw_fl_11_258 (fvl_i rfl) dX11_alikeAt_6 ?_
      refine lv_topi (fun v8 e9 => ?_)
      have b10 : iv 0 6 v8 := by rw [e9]; exact o.i 11 2 (rfl : ro 386 = 11)
      refine lv_icmp_gt (tgt := 105) E.1 E.2.1 dX11_alikeAt_9 (by decide) (fun c11 => ?_) (fun c11 => ?_)
      · skip
        have b12 : iv 1 7 y1 := lt_r c11 b10 b7 (by decide)
        refine lv_iload_n E.1 E.2.1 dX11_alikeAt_105 rfl (lv_at hl 1 rfl) ?_
        exact RET G rfl rfl dX11_alikeAt_106
      · skip
        have b13 : iv 0 6 y1 := le_l (Int32.not_lt.mp c11) b7 b10 (by decide)
        refine lv_iconst (v := 0) E.1 E.2.1 dX11_alikeAt_12 (by decide) ?_
        refine lv_istore (lv' := [(4, .int 0), (3, .int y1), (2, .int y2), (0, .ref (ad 386)), (1, .int x1)]) E.1 E.2.1 dX11_alikeAt_13 hl (by decide) rfl (fun ls hl => ?_)
        refine lv_iconst (v := 0) E.1 E.2.1 dX11_alikeAt_15 (by decide) ?_
        refine lv_istore (lv' := [(5, .int 0), (4, .int 0), (3, .int y1), (2, .int y2), (0, .ref (ad 386)), (1, .int x1)]) E.1 E.2.1 dX11_alikeAt_16 hl (by decide) rfl (fun ls hl => ?_)
        have LOOP18 : ∀ n : Nat, ∀ (y14 : Int32) (y15 : Int32) (H : Heap) (locs : List Loc) (ls : Array Slot), mG D A s H locs (wd K ad z) → iv 0 7 y14 → 7 < y14.toInt + (n : Int) → lv_has ls 6 [(5, .int y14), (4, .int y15), (3, .int y1), (2, .int y2), (0, .ref (ad 386)), (1, .int x1)] → W p l e R s m args below meth c H locs 0 0 Q (F0 m 18 ls []) := by
          intro n
          induction n with
          | zero =>
            intro y14 y15 H locs ls G b20 m19 hl
            exact absurd m19 (by have := b20.1; have := b20.2; omega)
          | succ n ih18 =>
            intro y14 y15 H locs ls G b20 m19 hl
            refine lv_iload E.1 E.2.1 dX11_alikeAt_18 (lv_at hl 0 rfl) ?_
            refine lv_aload_n E.1 E.2.1 dX11_alikeAt_20 rfl (lv_at hl 4 rfl) ?_
            refine t_get E G 11 2 (rfl : ro 386 = 11) (C := RX11) (T := TX11) (N := 37) rfl (by decide) (by decide) (by decide) mw_fl_11_258 (fvl_i rfl) dX11_alikeAt_21 ?_
            refine m_ci v8 e9.symm ?_
            refine lv_icmp_gt (tgt := 86) E.1 E.2.1 dX11_alikeAt_24 (by decide) (fun c21 => ?_) (fun c21 => ?_)
            · skip
              have b22 : iv 1 7 y14 := lt_r c21 b10 b20 (by decide)
              refine lv_iload E.1 E.2.1 dX11_alikeAt_86 (lv_at hl 1 rfl) ?_
              refine lv_iload_n E.1 E.2.1 dX11_alikeAt_88 rfl (lv_at hl 3 rfl) ?_
              refine lv_icmp_le (tgt := 97) E.1 E.2.1 dX11_alikeAt_89 (by decide) (fun c23 => ?_) (fun c23 => ?_)
              · skip
                refine lv_iload_n E.1 E.2.1 dX11_alikeAt_97 rfl (lv_at hl 3 rfl) ?_
                refine lv_istore_n (lv' := [(2, .int y2), (5, .int y14), (4, .int y15), (3, .int y1), (0, .ref (ad 386)), (1, .int x1)]) E.1 E.2.1 dX11_alikeAt_98 rfl hl (by decide) rfl (fun ls hl => ?_)
                obtain ⟨v24, e25⟩ : ∃ w : Int32, w = y1 + (1 : Int32) := ⟨_, rfl⟩
                refine lv_iinc (v := v24) (lv' := [(3, .int v24), (2, .int y2), (5, .int y14), (4, .int y15), (0, .ref (ad 386)), (1, .int x1)]) E.1 E.2.1 dX11_alikeAt_99 hl (k := 3) rfl (by rw [e25]; rfl) (by decide) rfl (fun ls hl => ?_)
                have b26 : iv 1 7 v24 := by rw [e25]; exact iv_add b13 (iv_lit (lo := 1) (hi := 1) 1 (by decide) (by decide)) (by decide) (by decide) (by decide) (by decide)
                have t27 : v24.toInt = y1.toInt + 1 := by rw [e25]; exact ti_addc 1 (by decide) b13 (by decide) (by decide)
                refine lv_goto (tgt := 4) E.1 E.2.1 dX11_alikeAt_102 (by decide) ?_
                exact ih4 v24 y2 H locs ls G (iv_mono b26 (by decide) (by decide)) (by have := t27; have := m6; omega) (lv_sub hl [0, 1, 4, 5] rfl)
              · skip
                have b28 : iv (-2147483648) 2147483646 y2 := lt_l (Int32.not_le.mp c23) (iv_full y2) (iv_full y15) (by decide)
                have b29 : iv (-2147483647) 2147483647 y15 := lt_r (Int32.not_le.mp c23) (iv_full y2) (iv_full y15) (by decide)
                refine lv_iload E.1 E.2.1 dX11_alikeAt_92 (lv_at hl 1 rfl) ?_
                refine lv_goto (tgt := 98) E.1 E.2.1 dX11_alikeAt_94 (by decide) ?_
                refine lv_istore_n (lv' := [(2, .int y15), (5, .int y14), (4, .int y15), (3, .int y1), (0, .ref (ad 386)), (1, .int x1)]) E.1 E.2.1 dX11_alikeAt_98 rfl hl (by decide) rfl (fun ls hl => ?_)
                obtain ⟨v30, e31⟩ : ∃ w : Int32, w = y1 + (1 : Int32) := ⟨_, rfl⟩
                refine lv_iinc (v := v30) (lv' := [(3, .int v30), (2, .int y15), (5, .int y14), (4, .int y15), (0, .ref (ad 386)), (1, .int x1)]) E.1 E.2.1 dX11_alikeAt_99 hl (k := 3) rfl (by rw [e31]; rfl) (by decide) rfl (fun ls hl => ?_)
                have b32 : iv 1 7 v30 := by rw [e31]; exact iv_add b13 (iv_lit (lo := 1) (hi := 1) 1 (by decide) (by decide)) (by decide) (by decide) (by decide) (by decide)
                have t33 : v30.toInt = y1.toInt + 1 := by rw [e31]; exact ti_addc 1 (by decide) b13 (by decide) (by decide)
                refine lv_goto (tgt := 4) E.1 E.2.1 dX11_alikeAt_102 (by decide) ?_
                exact ih4 v30 y15 H locs ls G (iv_mono b32 (by decide) (by decide)) (by have := t33; have := m6; omega) (lv_sub hl [0, 1, 4, 5] rfl)
            · skip
              have b34 : iv 0 6 y14 := le_l (Int32.not_lt.mp c21) b20 b10 (by decide)
              refine lv_aload_n E.1 E.2.1 dX11_alikeAt_27 rfl (lv_at hl 4 rfl) ?_
              refine t_get E G 11 30 (rfl : ro 386 = 11) (C := RX11) (T := TX11) (N := 37) rfl (by decide) (by decide) (by decide) mw_fl_11_64 (v := .ref (ad 403)) (fvl_o (n := 17) rfl) dX11_alikeAt_28 ?_
              refine lv_iload_n E.1 E.2.1 dX11_alikeAt_31 rfl (lv_at hl 2 rfl) ?_
              refine t_zald E G 61 (rfl : ro 403 = 61) (by decide) (by decide) rfl (n := 7) rfl (iv_vp b13 (by decide) (by decide)) dX11_alikeAt_32 ?_
              refine lv_topi (fun v35 e36 => ?_)
              have b37 : iv 0 1 v35 := by rw [e36]; exact iv_mono (rd_u o 61 (rfl : ro 403 = 61) (by decide) _) (by decide) (by decide)
              refine lv_if_eq (tgt := 86) E.1 E.2.1 dX11_alikeAt_33 (by decide) (fun c38 => ?_) (fun c38 => ?_)
              · skip
                have b39 : iv 0 0 v35 := iv_eq c38 (iv_lit (lo := 0) (hi := 0) 0 (by decide) (by decide))
                refine lv_iload E.1 E.2.1 dX11_alikeAt_86 (lv_at hl 1 rfl) ?_
                refine lv_iload_n E.1 E.2.1 dX11_alikeAt_88 rfl (lv_at hl 3 rfl) ?_
                refine lv_icmp_le (tgt := 97) E.1 E.2.1 dX11_alikeAt_89 (by decide) (fun c40 => ?_) (fun c40 => ?_)
                · skip
                  refine lv_iload_n E.1 E.2.1 dX11_alikeAt_97 rfl (lv_at hl 3 rfl) ?_
                  refine lv_istore_n (lv' := [(2, .int y2), (5, .int y14), (4, .int y15), (3, .int y1), (0, .ref (ad 386)), (1, .int x1)]) E.1 E.2.1 dX11_alikeAt_98 rfl hl (by decide) rfl (fun ls hl => ?_)
                  obtain ⟨v41, e42⟩ : ∃ w : Int32, w = y1 + (1 : Int32) := ⟨_, rfl⟩
                  refine lv_iinc (v := v41) (lv' := [(3, .int v41), (2, .int y2), (5, .int y14), (4, .int y15), (0, .ref (ad 386)), (1, .int x1)]) E.1 E.2.1 dX11_alikeAt_99 hl (k := 3) rfl (by rw [e42]; rfl) (by decide) rfl (fun ls hl => ?_)
                  have b43 : iv 1 7 v41 := by rw [e42]; exact iv_add b13 (iv_lit (lo := 1) (hi := 1) 1 (by decide) (by decide)) (by decide) (by decide) (by decide) (by decide)
                  have t44 : v41.toInt = y1.toInt + 1 := by rw [e42]; exact ti_addc 1 (by decide) b13 (by decide) (by decide)
                  refine lv_goto (tgt := 4) E.1 E.2.1 dX11_alikeAt_102 (by decide) ?_
                  exact ih4 v41 y2 H locs ls G (iv_mono b43 (by decide) (by decide)) (by have := t44; have := m6; omega) (lv_sub hl [0, 1, 4, 5] rfl)
                · skip
                  have b45 : iv (-2147483648) 2147483646 y2 := lt_l (Int32.not_le.mp c40) (iv_full y2) (iv_full y15) (by decide)
                  have b46 : iv (-2147483647) 2147483647 y15 := lt_r (Int32.not_le.mp c40) (iv_full y2) (iv_full y15) (by decide)
                  refine lv_iload E.1 E.2.1 dX11_alikeAt_92 (lv_at hl 1 rfl) ?_
                  refine lv_goto (tgt := 98) E.1 E.2.1 dX11_alikeAt_94 (by decide) ?_
                  refine lv_istore_n (lv' := [(2, .int y15), (5, .int y14), (4, .int y15), (3, .int y1), (0, .ref (ad 386)), (1, .int x1)]) E.1 E.2.1 dX11_alikeAt_98 rfl hl (by decide) rfl (fun ls hl => ?_)
                  obtain ⟨v47, e48⟩ : ∃ w : Int32, w = y1 + (1 : Int32) := ⟨_, rfl⟩
                  refine lv_iinc (v := v47) (lv' := [(3, .int v47), (2, .int y15), (5, .int y14), (4, .int y15), (0, .ref (ad 386)), (1, .int x1)]) E.1 E.2.1 dX11_alikeAt_99 hl (k := 3) rfl (by rw [e48]; rfl) (by decide) rfl (fun ls hl => ?_)
                  have b49 : iv 1 7 v47 := by rw [e48]; exact iv_add b13 (iv_lit (lo := 1) (hi := 1) 1 (by decide) (by decide)) (by decide) (by decide) (by decide) (by decide)
                  have t50 : v47.toInt = y1.toInt + 1 := by rw [e48]; exact ti_addc 1 (by decide) b13 (by decide) (by decide)
                  refine lv_goto (tgt := 4) E.1 E.2.1 dX11_alikeAt_102 (by decide) ?_
                  exact ih4 v47 y15 H locs ls G (iv_mono b49 (by decide) (by decide)) (by have := t50; have := m6; omega) (lv_sub hl [0, 1, 4, 5] rfl)
              · skip
                have b51 : iv 1 1 v35 := ne_lo c38 b37 (by decide) (by decide)
                refine lv_iload E.1 E.2.1 dX11_alikeAt_36 (lv_at hl 1 rfl) ?_
                refine lv_aload_n E.1 E.2.1 dX11_alikeAt_38 rfl (lv_at hl 4 rfl) ?_
                refine t_get E G 11 30 (rfl : ro 386 = 11) (C := RX11) (T := TX11) (N := 37) rfl (by decide) (by decide) (by decide) mw_fl_11_64 (v := .ref (ad 403)) (fvl_o (n := 17) rfl) dX11_alikeAt_39 ?_
                refine lv_iload E.1 E.2.1 dX11_alikeAt_42 (lv_at hl 0 rfl) ?_
                refine t_zald E G 61 (rfl : ro 403 = 61) (by decide) (by decide) rfl (n := 7) rfl (iv_vp b34 (by decide) (by decide)) dX11_alikeAt_44 ?_
                refine lv_topi (fun v52 e53 => ?_)
                have b54 : iv 0 1 v52 := by rw [e53]; exact iv_mono (rd_u o 61 (rfl : ro 403 = 61) (by decide) _) (by decide) (by decide)
                refine lv_if_eq (tgt := 76) E.1 E.2.1 dX11_alikeAt_45 (by decide) (fun c55 => ?_) (fun c55 => ?_)
                · skip
                  have b56 : iv 0 0 v52 := iv_eq c55 (iv_lit (lo := 0) (hi := 0) 0 (by decide) (by decide))
                  refine lv_iconst (v := 0) E.1 E.2.1 dX11_alikeAt_76 (by decide) ?_
                  refine lv_iadd E.1 E.2.1 dX11_alikeAt_77 ?_
                  refine lv_topi (fun v57 e58 => ?_)
                  have l59 : v57.toInt = 0 + 1 * y15.toInt := (show v57.toInt = y15.toInt + 0 by rw [e58]; exact ti_addc 0 (by decide) (iv_full y15) (by decide) (by decide)).trans (by omega)
                  refine lv_istore (lv' := [(4, .int v57), (5, .int y14), (3, .int y1), (2, .int y2), (0, .ref (ad 386)), (1, .int x1)]) E.1 E.2.1 dX11_alikeAt_78 hl (by decide) rfl (fun ls hl => ?_)
                  obtain ⟨v60, e61⟩ : ∃ w : Int32, w = y14 + (1 : Int32) := ⟨_, rfl⟩
                  refine lv_iinc (v := v60) (lv' := [(5, .int v60), (4, .int v57), (3, .int y1), (2, .int y2), (0, .ref (ad 386)), (1, .int x1)]) E.1 E.2.1 dX11_alikeAt_80 hl (k := 1) rfl (by rw [e61]; rfl) (by decide) rfl (fun ls hl => ?_)
                  have b62 : iv 1 7 v60 := by rw [e61]; exact iv_add b34 (iv_lit (lo := 1) (hi := 1) 1 (by decide) (by decide)) (by decide) (by decide) (by decide) (by decide)
                  have t63 : v60.toInt = y14.toInt + 1 := by rw [e61]; exact ti_addc 1 (by decide) b34 (by decide) (by decide)
                  refine lv_goto (tgt := 18) E.1 E.2.1 dX11_alikeAt_83 (by decide) ?_
                  exact ih18 v60 v57 H locs ls G (iv_mono b62 (by decide) (by decide)) (by have := t63; have := m19; omega) (lv_sub hl [0, 1, 2, 3, 4, 5] rfl)
                · skip
                  have b64 : iv 1 1 v52 := ne_lo c55 b54 (by decide) (by decide)
                  refine lv_aload_n E.1 E.2.1 dX11_alikeAt_48 rfl (lv_at hl 4 rfl) ?_
                  refine t_get E G 11 31 (rfl : ro 386 = 11) (C := RX11) (T := TX11) (N := 37) rfl (by decide) (by decide) (by decide) mw_fl_11_68 (v := .ref (ad 404)) (fvl_o (n := 18) rfl) dX11_alikeAt_49 ?_
                  refine lv_iconst (v := 5) E.1 E.2.1 dX11_alikeAt_52 (by decide) ?_
                  refine lv_iload_n E.1 E.2.1 dX11_alikeAt_53 rfl (lv_at hl 2 rfl) ?_
                  refine lv_imul E.1 E.2.1 dX11_alikeAt_54 ?_
                  refine lv_topi (fun v65 e66 => ?_)
                  have b67 : iv 0 30 v65 := by rw [e66]; exact iv_mulc' b13 5 (by decide) (by decide) (by decide) (by decide) (by decide) (by decide)
                  have l68 : v65.toInt = 0 + 5 * y1.toInt := (show v65.toInt = 5 * y1.toInt by rw [e66]; exact ti_cmul 5 (by decide) (by decide) b13 (by decide) (by decide)).trans (by omega)
                  refine lv_iload_n E.1 E.2.1 dX11_alikeAt_55 rfl (lv_at hl 5 rfl) ?_
                  refine lv_iadd E.1 E.2.1 dX11_alikeAt_56 ?_
                  refine lv_topi (fun v69 e70 => ?_)
                  have b71 : iv 0 34 v69 := by rw [e70]; exact iv_add b67 bx1 (by decide) (by decide) (by decide) (by decide)
                  have l72 : v69.toInt = 0 + 5 * y1.toInt + 1 * x1.toInt := (show v69.toInt = v65.toInt + x1.toInt by rw [e70]; exact ti_addv b67 bx1 (by decide) (by decide)).trans (by omega)
                  refine t_iald E G 62 (rfl : ro 404 = 62) (by decide) (by decide) rfl (n := 35) rfl (iv_vp b71 (by decide) (by decide)) dX11_alikeAt_57 ?_
                  refine lv_topi (fun v73 e74 => ?_)
                  refine lv_aload_n E.1 E.2.1 dX11_alikeAt_58 rfl (lv_at hl 4 rfl) ?_
                  refine t_get E G 11 31 (rfl : ro 386 = 11) (C := RX11) (T := TX11) (N := 37) rfl (by decide) (by decide) (by decide) mw_fl_11_68 (v := .ref (ad 404)) (fvl_o (n := 18) rfl) dX11_alikeAt_59 ?_
                  refine lv_iconst (v := 5) E.1 E.2.1 dX11_alikeAt_62 (by decide) ?_
                  refine lv_iload E.1 E.2.1 dX11_alikeAt_63 (lv_at hl 0 rfl) ?_
                  refine lv_imul E.1 E.2.1 dX11_alikeAt_65 ?_
                  refine lv_topi (fun v75 e76 => ?_)
                  have b77 : iv 0 30 v75 := by rw [e76]; exact iv_mulc' b34 5 (by decide) (by decide) (by decide) (by decide) (by decide) (by decide)
                  have l78 : v75.toInt = 0 + 5 * y14.toInt := (show v75.toInt = 5 * y14.toInt by rw [e76]; exact ti_cmul 5 (by decide) (by decide) b34 (by decide) (by decide)).trans (by omega)
                  refine lv_iload_n E.1 E.2.1 dX11_alikeAt_66 rfl (lv_at hl 5 rfl) ?_
                  refine lv_iadd E.1 E.2.1 dX11_alikeAt_67 ?_
                  refine lv_topi (fun v79 e80 => ?_)
                  have b81 : iv 0 34 v79 := by rw [e80]; exact iv_add b77 bx1 (by decide) (by decide) (by decide) (by decide)
                  have l82 : v79.toInt = 0 + 5 * y14.toInt + 1 * x1.toInt := (show v79.toInt = v75.toInt + x1.toInt by rw [e80]; exact ti_addv b77 bx1 (by decide) (by decide)).trans (by omega)
                  refine t_iald E G 62 (rfl : ro 404 = 62) (by decide) (by decide) rfl (n := 35) rfl (iv_vp b81 (by decide) (by decide)) dX11_alikeAt_68 ?_
                  refine lv_topi (fun v83 e84 => ?_)
                  refine lv_icmp_ne (tgt := 76) E.1 E.2.1 dX11_alikeAt_69 (by decide) (fun c85 => ?_) (fun c85 => ?_)
                  · skip
                    refine lv_iconst (v := 0) E.1 E.2.1 dX11_alikeAt_76 (by decide) ?_
                    refine lv_iadd E.1 E.2.1 dX11_alikeAt_77 ?_
                    refine lv_topi (fun v86 e87 => ?_)
                    have l88 : v86.toInt = 0 + 1 * y15.toInt := (show v86.toInt = y15.toInt + 0 by rw [e87]; exact ti_addc 0 (by decide) (iv_full y15) (by decide) (by decide)).trans (by omega)
                    refine lv_istore (lv' := [(4, .int v86), (5, .int y14), (3, .int y1), (2, .int y2), (0, .ref (ad 386)), (1, .int x1)]) E.1 E.2.1 dX11_alikeAt_78 hl (by decide) rfl (fun ls hl => ?_)
                    obtain ⟨v89, e90⟩ : ∃ w : Int32, w = y14 + (1 : Int32) := ⟨_, rfl⟩
                    refine lv_iinc (v := v89) (lv' := [(5, .int v89), (4, .int v86), (3, .int y1), (2, .int y2), (0, .ref (ad 386)), (1, .int x1)]) E.1 E.2.1 dX11_alikeAt_80 hl (k := 1) rfl (by rw [e90]; rfl) (by decide) rfl (fun ls hl => ?_)
                    have b91 : iv 1 7 v89 := by rw [e90]; exact iv_add b34 (iv_lit (lo := 1) (hi := 1) 1 (by decide) (by decide)) (by decide) (by decide) (by decide) (by decide)
                    have t92 : v89.toInt = y14.toInt + 1 := by rw [e90]; exact ti_addc 1 (by decide) b34 (by decide) (by decide)
                    refine lv_goto (tgt := 18) E.1 E.2.1 dX11_alikeAt_83 (by decide) ?_
                    exact ih18 v89 v86 H locs ls G (iv_mono b91 (by decide) (by decide)) (by have := t92; have := m19; omega) (lv_sub hl [0, 1, 2, 3, 4, 5] rfl)
                  · skip
                    refine lv_iconst (v := 1) E.1 E.2.1 dX11_alikeAt_72 (by decide) ?_
                    refine lv_goto (tgt := 77) E.1 E.2.1 dX11_alikeAt_73 (by decide) ?_
                    refine lv_iadd E.1 E.2.1 dX11_alikeAt_77 ?_
                    refine lv_topi (fun v93 e94 => ?_)
                    refine lv_istore (lv' := [(4, .int v93), (5, .int y14), (3, .int y1), (2, .int y2), (0, .ref (ad 386)), (1, .int x1)]) E.1 E.2.1 dX11_alikeAt_78 hl (by decide) rfl (fun ls hl => ?_)
                    obtain ⟨v95, e96⟩ : ∃ w : Int32, w = y14 + (1 : Int32) := ⟨_, rfl⟩
                    refine lv_iinc (v := v95) (lv' := [(5, .int v95), (4, .int v93), (3, .int y1), (2, .int y2), (0, .ref (ad 386)), (1, .int x1)]) E.1 E.2.1 dX11_alikeAt_80 hl (k := 1) rfl (by rw [e96]; rfl) (by decide) rfl (fun ls hl => ?_)
                    have b97 : iv 1 7 v95 := by rw [e96]; exact iv_add b34 (iv_lit (lo := 1) (hi := 1) 1 (by decide) (by decide)) (by decide) (by decide) (by decide) (by decide)
                    have t98 : v95.toInt = y14.toInt + 1 := by rw [e96]; exact ti_addc 1 (by decide) b34 (by decide) (by decide)
                    refine lv_goto (tgt := 18) E.1 E.2.1 dX11_alikeAt_83 (by decide) ?_
                    exact ih18 v95 v93 H locs ls G (iv_mono b97 (by decide) (by decide)) (by have := t98; have := m19; omega) (lv_sub hl [0, 1, 2, 3, 4, 5] rfl)
        exact LOOP18 8 0 0 H locs ls G (iv_mono (iv_lit (lo := 0) (hi := 0) 0 (by decide) (by decide)) (by decide) (by decide)) (by have := (iv_lit (lo := 0) (hi := 0) 0 (by decide) (by decide)).1; omega) (lv_sub hl [0, 1, 2, 3, 4, 5] rfl)
  exact LOOP4 8 0 0 H locs ls G (iv_mono (iv_lit (lo := 0) (hi := 0) 0 (by decide) (by decide)) (by decide) (by decide)) (by have := (iv_lit (lo := 0) (hi := 0) 0 (by decide) (by decide)).1; omega) (lv_sub hl [0, 1, 2, 3] rfl)
set_option maxHeartbeats 4000000 in
set_option maxRecDepth 100000 in
theorem v_count (l : Launch) (D : va_G) (K : Nat → ClassId) (ad : Nat → Nat) (z : TS) (o : Ok z) (x1 : Int32) : cI l yX11_count cX11_count 2 .int ({ frames := 3, cells := 0, slots := 0, locals := 64 }) D K ad z [.ref (ad 386), .int x1] (fun r u => u = z) := by
  refine t_enterI (by decide) (Nat.le_of_ble_eq_true rfl) rfl rfl ?_
  intro p e s m args below meth c A R Q H locs ls E hfr hlo RET G hl
  have E : mE p s m meth c cX11_count args 2 RX11 D K A := E
  have hl : lv_has ls 2 [(0, .ref (ad 386)), (1, .int x1)] := hl
  refine lv_iload_n E.1 E.2.1 dX11_count_0 rfl (lv_at hl 1 rfl) ?_
  rcases Decidable.em (x1.toInt < 0 ∨ 13 < x1.toInt) with c1 | c1
  · refine lv_tableOut (tgt := 137) E.1 E.2.1 dX11_count_1 c1 (by decide) ?_
    refine lv_iconst (v := (-1)) E.1 E.2.1 dX11_count_137 (by decide) ?_
    exact RET G rfl rfl dX11_count_138
  · rcases sw_0_13 x1 (fun h => c1 (Or.inl h)) (fun h => c1 (Or.inr h)) with ee0 | ee1 | ee2 | ee3 | ee4 | ee5 | ee6 | ee7 | ee8 | ee9 | ee10 | ee11 | ee12 | ee13
    · refine lv_tableIn (off := 71) (tgt := 72) E.1 E.2.1 dX11_count_1 (by rw [ee0]; decide) (by rw [ee0]; decide) (by rw [ee0]; decide) (by decide) ?_
      refine lv_aload_n E.1 E.2.1 dX11_count_72 rfl (lv_at hl 0 rfl) ?_
      refine t_get E G 11 20 (rfl : ro 386 = 11) (C := RX11) (T := TX11) (N := 37) rfl (by decide) (by decide) (by decide) mw_fl_11_39 (v := .ref (ad 396)) (fvl_o (n := 10) rfl) dX11_count_73 ?_
      refine lv_iload_n E.1 E.2.1 dX11_count_76 rfl (lv_at hl 1 rfl) ?_
      refine lv_iconst (v := 1) E.1 E.2.1 dX11_count_77 (by decide) ?_
      refine lv_iadd E.1 E.2.1 dX11_count_78 ?_
      refine lv_topi (fun v3 e4 => ?_)
      have b5 : iv 1 1 v3 := by rw [e4]; exact iv_add (iv_eq ee0 (iv_lit (lo := 0) (hi := 0) 0 (by decide) (by decide))) (iv_lit (lo := 1) (hi := 1) 1 (by decide) (by decide)) (by decide) (by decide) (by decide) (by decide)
      have l6 : v3.toInt = 1 + 1 * x1.toInt := (show v3.toInt = x1.toInt + 1 by rw [e4]; exact ti_addc 1 (by decide) (iv_eq ee0 (iv_lit (lo := 0) (hi := 0) 0 (by decide) (by decide))) (by decide) (by decide)).trans (by omega)
      refine t_iald E G 54 (rfl : ro 396 = 54) (by decide) (by decide) rfl (n := 127) rfl (iv_vp b5 (by decide) (by decide)) dX11_count_79 ?_
      refine lv_topi (fun v7 e8 => ?_)
      have b9 : iv 0 8 v7 := by rw [e8]; exact rd1 o 54 (rfl : ro 396 = 54) 1 1 0 0 (iv_eq ee0 (iv_lit (lo := 0) (hi := 0) 0 (by decide) (by decide))) (l6.trans (by omega)) (by decide +kernel)
      exact RET G rfl rfl dX11_count_80
    · refine lv_tableIn (off := 71) (tgt := 72) E.1 E.2.1 dX11_count_1 (by rw [ee1]; decide) (by rw [ee1]; decide) (by rw [ee1]; decide) (by decide) ?_
      refine lv_aload_n E.1 E.2.1 dX11_count_72 rfl (lv_at hl 0 rfl) ?_
      refine t_get E G 11 20 (rfl : ro 386 = 11) (C := RX11) (T := TX11) (N := 37) rfl (by decide) (by decide) (by decide) mw_fl_11_39 (v := .ref (ad 396)) (fvl_o (n := 10) rfl) dX11_count_73 ?_
      refine lv_iload_n E.1 E.2.1 dX11_count_76 rfl (lv_at hl 1 rfl) ?_
      refine lv_iconst (v := 1) E.1 E.2.1 dX11_count_77 (by decide) ?_
      refine lv_iadd E.1 E.2.1 dX11_count_78 ?_
      refine lv_topi (fun v10 e11 => ?_)
      have b12 : iv 2 2 v10 := by rw [e11]; exact iv_add (iv_eq ee1 (iv_lit (lo := 1) (hi := 1) 1 (by decide) (by decide))) (iv_lit (lo := 1) (hi := 1) 1 (by decide) (by decide)) (by decide) (by decide) (by decide) (by decide)
      have l13 : v10.toInt = 1 + 1 * x1.toInt := (show v10.toInt = x1.toInt + 1 by rw [e11]; exact ti_addc 1 (by decide) (iv_eq ee1 (iv_lit (lo := 1) (hi := 1) 1 (by decide) (by decide))) (by decide) (by decide)).trans (by omega)
      refine t_iald E G 54 (rfl : ro 396 = 54) (by decide) (by decide) rfl (n := 127) rfl (iv_vp b12 (by decide) (by decide)) dX11_count_79 ?_
      refine lv_topi (fun v14 e15 => ?_)
      exact RET G rfl rfl dX11_count_80
    · refine lv_tableIn (off := 71) (tgt := 72) E.1 E.2.1 dX11_count_1 (by rw [ee2]; decide) (by rw [ee2]; decide) (by rw [ee2]; decide) (by decide) ?_
      refine lv_aload_n E.1 E.2.1 dX11_count_72 rfl (lv_at hl 0 rfl) ?_
      refine t_get E G 11 20 (rfl : ro 386 = 11) (C := RX11) (T := TX11) (N := 37) rfl (by decide) (by decide) (by decide) mw_fl_11_39 (v := .ref (ad 396)) (fvl_o (n := 10) rfl) dX11_count_73 ?_
      refine lv_iload_n E.1 E.2.1 dX11_count_76 rfl (lv_at hl 1 rfl) ?_
      refine lv_iconst (v := 1) E.1 E.2.1 dX11_count_77 (by decide) ?_
      refine lv_iadd E.1 E.2.1 dX11_count_78 ?_
      refine lv_topi (fun v16 e17 => ?_)
      have b18 : iv 3 3 v16 := by rw [e17]; exact iv_add (iv_eq ee2 (iv_lit (lo := 2) (hi := 2) 2 (by decide) (by decide))) (iv_lit (lo := 1) (hi := 1) 1 (by decide) (by decide)) (by decide) (by decide) (by decide) (by decide)
      have l19 : v16.toInt = 1 + 1 * x1.toInt := (show v16.toInt = x1.toInt + 1 by rw [e17]; exact ti_addc 1 (by decide) (iv_eq ee2 (iv_lit (lo := 2) (hi := 2) 2 (by decide) (by decide))) (by decide) (by decide)).trans (by omega)
      refine t_iald E G 54 (rfl : ro 396 = 54) (by decide) (by decide) rfl (n := 127) rfl (iv_vp b18 (by decide) (by decide)) dX11_count_79 ?_
      refine lv_topi (fun v20 e21 => ?_)
      have b22 : iv 0 6 v20 := by rw [e21]; exact rd1 o 54 (rfl : ro 396 = 54) 1 1 2 2 (iv_eq ee2 (iv_lit (lo := 2) (hi := 2) 2 (by decide) (by decide))) (l19.trans (by omega)) (by decide +kernel)
      exact RET G rfl rfl dX11_count_80
    · refine lv_tableIn (off := 71) (tgt := 72) E.1 E.2.1 dX11_count_1 (by rw [ee3]; decide) (by rw [ee3]; decide) (by rw [ee3]; decide) (by decide) ?_
      refine lv_aload_n E.1 E.2.1 dX11_count_72 rfl (lv_at hl 0 rfl) ?_
      refine t_get E G 11 20 (rfl : ro 386 = 11) (C := RX11) (T := TX11) (N := 37) rfl (by decide) (by decide) (by decide) mw_fl_11_39 (v := .ref (ad 396)) (fvl_o (n := 10) rfl) dX11_count_73 ?_
      refine lv_iload_n E.1 E.2.1 dX11_count_76 rfl (lv_at hl 1 rfl) ?_
      refine lv_iconst (v := 1) E.1 E.2.1 dX11_count_77 (by decide) ?_
      refine lv_iadd E.1 E.2.1 dX11_count_78 ?_
      refine lv_topi (fun v23 e24 => ?_)
      have b25 : iv 4 4 v23 := by rw [e24]; exact iv_add (iv_eq ee3 (iv_lit (lo := 3) (hi := 3) 3 (by decide) (by decide))) (iv_lit (lo := 1) (hi := 1) 1 (by decide) (by decide)) (by decide) (by decide) (by decide) (by decide)
      have l26 : v23.toInt = 1 + 1 * x1.toInt := (show v23.toInt = x1.toInt + 1 by rw [e24]; exact ti_addc 1 (by decide) (iv_eq ee3 (iv_lit (lo := 3) (hi := 3) 3 (by decide) (by decide))) (by decide) (by decide)).trans (by omega)
      refine t_iald E G 54 (rfl : ro 396 = 54) (by decide) (by decide) rfl (n := 127) rfl (iv_vp b25 (by decide) (by decide)) dX11_count_79 ?_
      refine lv_topi (fun v27 e28 => ?_)
      have b29 : iv 0 5 v27 := by rw [e28]; exact rd1 o 54 (rfl : ro 396 = 54) 1 1 3 3 (iv_eq ee3 (iv_lit (lo := 3) (hi := 3) 3 (by decide) (by decide))) (l26.trans (by omega)) (by decide +kernel)
      exact RET G rfl rfl dX11_count_80
    · refine lv_tableIn (off := 80) (tgt := 81) E.1 E.2.1 dX11_count_1 (by rw [ee4]; decide) (by rw [ee4]; decide) (by rw [ee4]; decide) (by decide) ?_
      refine lv_aload_n E.1 E.2.1 dX11_count_81 rfl (lv_at hl 0 rfl) ?_
      refine t_get E G 11 2 (rfl : ro 386 = 11) (C := RX11) (T := TX11) (N := 37) rfl (by decide) (by decide) (by decide) mw_fl_11_258 (fvl_i rfl) dX11_count_82 ?_
      refine lv_topi (fun v30 e31 => ?_)
      have b32 : iv 0 6 v30 := by rw [e31]; exact o.i 11 2 (rfl : ro 386 = 11)
      exact RET G rfl rfl dX11_count_85
    · refine lv_tableIn (off := 85) (tgt := 86) E.1 E.2.1 dX11_count_1 (by rw [ee5]; decide) (by rw [ee5]; decide) (by rw [ee5]; decide) (by decide) ?_
      refine lv_aload_n E.1 E.2.1 dX11_count_86 rfl (lv_at hl 0 rfl) ?_
      refine t_get E G 11 21 (rfl : ro 386 = 11) (C := RX11) (T := TX11) (N := 37) rfl (by decide) (by decide) (by decide) mw_fl_11_42 (fvl_i rfl) dX11_count_87 ?_
      refine lv_topi (fun v33 e34 => ?_)
      have b35 : iv (-1) 5 v33 := by rw [e34]; exact o.i 11 21 (rfl : ro 386 = 11)
      exact RET G rfl rfl dX11_count_90
    · refine lv_tableIn (off := 90) (tgt := 91) E.1 E.2.1 dX11_count_1 (by rw [ee6]; decide) (by rw [ee6]; decide) (by rw [ee6]; decide) (by decide) ?_
      refine lv_aload_n E.1 E.2.1 dX11_count_91 rfl (lv_at hl 0 rfl) ?_
      refine t_get E G 11 20 (rfl : ro 386 = 11) (C := RX11) (T := TX11) (N := 37) rfl (by decide) (by decide) (by decide) mw_fl_11_39 (v := .ref (ad 396)) (fvl_o (n := 10) rfl) dX11_count_92 ?_
      refine lv_bipush (v := 10) E.1 E.2.1 dX11_count_95 (by decide) ?_
      refine t_iald E G 54 (rfl : ro 396 = 54) (by decide) (by decide) rfl (n := 127) rfl (by unfold vp_in; decide) dX11_count_97 ?_
      refine lv_topi (fun v36 e37 => ?_)
      exact RET G rfl rfl dX11_count_98
    · refine lv_tableIn (off := 98) (tgt := 99) E.1 E.2.1 dX11_count_1 (by rw [ee7]; decide) (by rw [ee7]; decide) (by rw [ee7]; decide) (by decide) ?_
      refine lv_aload_n E.1 E.2.1 dX11_count_99 rfl (lv_at hl 0 rfl) ?_
      refine t_vi E G hl (v_laidOnes l D K ad z o) 11 (rfl : ro 386 = 11) (by decide) rfl rfl 0 rfl mw_code_X11_laidOnes mw_ini_11 mw_ml_11_379 mw_inst_X11_laidOnes mw_sel_X11_laidOnes hd_X11_laidOnes ⟨Nat.le_trans (by decide) hfr, Nat.le_trans (by decide) hlo⟩ rfl rfl rfl (Nat.le_of_ble_eq_true rfl) dX11_count_100 (fun r39 zz38 H locs hp40 G => ?_)
      have hz41 := hp40
      rw [hz41] at G
      exact RET G rfl rfl dX11_count_103
    · refine lv_tableIn (off := 103) (tgt := 104) E.1 E.2.1 dX11_count_1 (by rw [ee8]; decide) (by rw [ee8]; decide) (by rw [ee8]; decide) (by decide) ?_
      refine lv_aload_n E.1 E.2.1 dX11_count_104 rfl (lv_at hl 0 rfl) ?_
      refine t_vi E G hl (v_homeOnes l D K ad z o) 11 (rfl : ro 386 = 11) (by decide) rfl rfl 0 rfl mw_code_X11_homeOnes mw_ini_11 mw_ml_11_466 mw_inst_X11_homeOnes mw_sel_X11_homeOnes hd_X11_homeOnes ⟨Nat.le_trans (by decide) hfr, Nat.le_trans (by decide) hlo⟩ rfl rfl rfl (Nat.le_of_ble_eq_true rfl) dX11_count_105 (fun r43 zz42 H locs hp44 G => ?_)
      have hz45 := hp44
      rw [hz45] at G
      exact RET G rfl rfl dX11_count_108
    · refine lv_tableIn (off := 108) (tgt := 109) E.1 E.2.1 dX11_count_1 (by rw [ee9]; decide) (by rw [ee9]; decide) (by rw [ee9]; decide) (by decide) ?_
      refine lv_aload_n E.1 E.2.1 dX11_count_109 rfl (lv_at hl 0 rfl) ?_
      refine t_vi E G hl (v_charges l D K ad z o) 11 (rfl : ro 386 = 11) (by decide) rfl rfl 0 rfl mw_code_X11_charges mw_ini_11 mw_ml_11_394 mw_inst_X11_charges mw_sel_X11_charges hd_X11_charges ⟨Nat.le_trans (by decide) hfr, Nat.le_trans (by decide) hlo⟩ rfl rfl rfl (Nat.le_of_ble_eq_true rfl) dX11_count_110 (fun r47 zz46 H locs hp48 G => ?_)
      have hz49 := hp48
      rw [hz49] at G
      exact RET G rfl rfl dX11_count_113
    · refine lv_tableIn (off := 113) (tgt := 114) E.1 E.2.1 dX11_count_1 (by rw [ee10]; decide) (by rw [ee10]; decide) (by rw [ee10]; decide) (by decide) ?_
      refine lv_aload_n E.1 E.2.1 dX11_count_114 rfl (lv_at hl 0 rfl) ?_
      refine t_get E G 11 20 (rfl : ro 386 = 11) (C := RX11) (T := TX11) (N := 37) rfl (by decide) (by decide) (by decide) mw_fl_11_39 (v := .ref (ad 396)) (fvl_o (n := 10) rfl) dX11_count_115 ?_
      refine lv_bipush (v := 126) E.1 E.2.1 dX11_count_118 (by decide) ?_
      refine t_iald E G 54 (rfl : ro 396 = 54) (by decide) (by decide) rfl (n := 127) rfl (by unfold vp_in; decide) dX11_count_120 ?_
      refine lv_topi (fun v50 e51 => ?_)
      have b52 : iv 0 10 v50 := by rw [e51]; exact iv_mono (o.a 54 (rfl : ro 396 = 54) _) (by decide +kernel) (by decide +kernel)
      exact RET G rfl rfl dX11_count_121
    · refine lv_tableIn (off := 121) (tgt := 122) E.1 E.2.1 dX11_count_1 (by rw [ee11]; decide) (by rw [ee11]; decide) (by rw [ee11]; decide) (by decide) ?_
      refine lv_aload_n E.1 E.2.1 dX11_count_122 rfl (lv_at hl 0 rfl) ?_
      refine t_get E G 11 26 (rfl : ro 386 = 11) (C := RX11) (T := TX11) (N := 37) rfl (by decide) (by decide) (by decide) mw_fl_11_267 (fvl_i rfl) dX11_count_123 ?_
      refine lv_topi (fun v53 e54 => ?_)
      have b55 : iv 0 20 v53 := by rw [e54]; exact o.i 11 26 (rfl : ro 386 = 11)
      exact RET G rfl rfl dX11_count_126
    · refine lv_tableIn (off := 126) (tgt := 127) E.1 E.2.1 dX11_count_1 (by rw [ee12]; decide) (by rw [ee12]; decide) (by rw [ee12]; decide) (by decide) ?_
      refine lv_aload_n E.1 E.2.1 dX11_count_127 rfl (lv_at hl 0 rfl) ?_
      refine t_get E G 11 22 (rfl : ro 386 = 11) (C := RX11) (T := TX11) (N := 37) rfl (by decide) (by decide) (by decide) mw_fl_11_446 (fvl_i rfl) dX11_count_128 ?_
      refine lv_topi (fun v56 e57 => ?_)
      have b58 : iv 0 2147483647 v56 := by rw [e57]; exact o.i 11 22 (rfl : ro 386 = 11)
      exact RET G rfl rfl dX11_count_131
    · refine lv_tableIn (off := 131) (tgt := 132) E.1 E.2.1 dX11_count_1 (by rw [ee13]; decide) (by rw [ee13]; decide) (by rw [ee13]; decide) (by decide) ?_
      refine lv_aload_n E.1 E.2.1 dX11_count_132 rfl (lv_at hl 0 rfl) ?_
      refine t_get E G 11 1 (rfl : ro 386 = 11) (C := RX11) (T := TX11) (N := 37) rfl (by decide) (by decide) (by decide) mw_fl_11_83 (fvl_i rfl) dX11_count_133 ?_
      refine lv_topi (fun v59 e60 => ?_)
      have b61 : iv 0 400 v59 := by rw [e60]; exact o.i 11 1 (rfl : ro 386 = 11)
      exact RET G rfl rfl dX11_count_136
