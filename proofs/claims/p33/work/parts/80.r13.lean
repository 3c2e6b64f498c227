theorem mw_cL_11_400 : (Cond.constantLong RX11 400 (40) : Cond) ∈ cw := cw_of (List.mem_append_right _ (List.mem_append_right _ (List.mem_append_right _ (List.mem_append_right _ (List.mem_append_right _ (List.mem_append_right _ (List.mem_append_right _ (List.mem_append_left _ (List.mem_of_getElem? (i := 122) (by decide +kernel)))))))))) (by decide +kernel)
theorem mw_cL_11_415 : (Cond.constantLong RX11 415 (20) : Cond) ∈ cw := cw_of (List.mem_append_right _ (List.mem_append_right _ (List.mem_append_right _ (List.mem_append_right _ (List.mem_append_right _ (List.mem_append_right _ (List.mem_append_right _ (List.mem_append_left _ (List.mem_of_getElem? (i := 154) (by decide +kernel)))))))))) (by decide +kernel)
theorem mw_code_X11_areAlike : (Cond.code yX11_areAlike cX11_areAlike 4 (some .boolean) : Cond) ∈ cw := cw_of (List.mem_append_right _ (List.mem_append_right _ (List.mem_append_right _ (List.mem_append_right _ (List.mem_append_right _ (List.mem_append_right _ (List.mem_append_right _ (List.mem_append_left _ (List.mem_of_getElem? (i := 174) rfl))))))))) (by decide +kernel)
theorem mw_code_X11_bestFor : (Cond.code yX11_bestFor cX11_bestFor 9 (some .int) : Cond) ∈ cw := cw_of (List.mem_append_right _ (List.mem_append_right _ (List.mem_append_right _ (List.mem_append_right _ (List.mem_append_right _ (List.mem_append_right _ (List.mem_append_right _ (List.mem_append_left _ (List.mem_of_getElem? (i := 126) rfl))))))))) (by decide +kernel)
theorem mw_code_X11_fillsRest : (Cond.code yX11_fillsRest cX11_fillsRest 7 none : Cond) ∈ cw := cw_of (List.mem_append_right _ (List.mem_append_right _ (List.mem_append_right _ (List.mem_append_right _ (List.mem_append_right _ (List.mem_append_right _ (List.mem_append_right _ (List.mem_append_left _ (List.mem_of_getElem? (i := 158) rfl))))))))) (by decide +kernel)
theorem mw_code_X11_isRest : (Cond.code yX11_isRest cX11_isRest 4 (some .boolean) : Cond) ∈ cw := cw_of (List.mem_append_right _ (List.mem_append_right _ (List.mem_append_right _ (List.mem_append_right _ (List.mem_append_right _ (List.mem_append_right _ (List.mem_append_right _ (List.mem_append_left _ (List.mem_of_getElem? (i := 166) rfl))))))))) (by decide +kernel)
theorem mw_inst_X11_areAlike : (Cond.instanceMethod yX11_areAlike : Cond) ∈ cw := cw_of (List.mem_append_right _ (List.mem_append_right _ (List.mem_append_right _ (List.mem_append_right _ (List.mem_append_right _ (List.mem_append_right _ (List.mem_append_right _ (List.mem_append_left _ (List.mem_of_getElem? (i := 173) (by decide +kernel)))))))))) (by decide +kernel)
theorem mw_inst_X11_bestFor : (Cond.instanceMethod yX11_bestFor : Cond) ∈ cw := cw_of (List.mem_append_right _ (List.mem_append_right _ (List.mem_append_right _ (List.mem_append_right _ (List.mem_append_right _ (List.mem_append_right _ (List.mem_append_right _ (List.mem_append_left _ (List.mem_of_getElem? (i := 125) (by decide +kernel)))))))))) (by decide +kernel)
theorem mw_inst_X11_fillsRest : (Cond.instanceMethod yX11_fillsRest : Cond) ∈ cw := cw_of (List.mem_append_right _ (List.mem_append_right _ (List.mem_append_right _ (List.mem_append_right _ (List.mem_append_right _ (List.mem_append_right _ (List.mem_append_right _ (List.mem_append_left _ (List.mem_of_getElem? (i := 157) (by decide +kernel)))))))))) (by decide +kernel)
theorem mw_inst_X11_isRest : (Cond.instanceMethod yX11_isRest : Cond) ∈ cw := cw_of (List.mem_append_right _ (List.mem_append_right _ (List.mem_append_right _ (List.mem_append_right _ (List.mem_append_right _ (List.mem_append_right _ (List.mem_append_right _ (List.mem_append_left _ (List.mem_of_getElem? (i := 165) (by decide +kernel)))))))))) (by decide +kernel)
theorem mw_ml_11_402 : (Cond.methodLink RX11 402 yX11_bestFor : Cond) ∈ cw := cw_of (List.mem_append_right _ (List.mem_append_right _ (List.mem_append_right _ (List.mem_append_right _ (List.mem_append_right _ (List.mem_append_right _ (List.mem_append_right _ (List.mem_append_left _ (List.mem_of_getElem? (i := 123) (by decide +kernel)))))))))) (by decide +kernel)
theorem mw_ml_11_417 : (Cond.methodLink RX11 417 yX11_fillsRest : Cond) ∈ cw := cw_of (List.mem_append_right _ (List.mem_append_right _ (List.mem_append_right _ (List.mem_append_right _ (List.mem_append_right _ (List.mem_append_right _ (List.mem_append_right _ (List.mem_append_left _ (List.mem_of_getElem? (i := 155) (by decide +kernel)))))))))) (by decide +kernel)
theorem mw_ml_11_421 : (Cond.methodLink RX11 421 yX11_isRest : Cond) ∈ cw := cw_of (List.mem_append_right _ (List.mem_append_right _ (List.mem_append_right _ (List.mem_append_right _ (List.mem_append_right _ (List.mem_append_right _ (List.mem_append_right _ (List.mem_append_left _ (List.mem_of_getElem? (i := 163) (by decide +kernel)))))))))) (by decide +kernel)
theorem mw_ml_11_424 : (Cond.methodLink RX11 424 yX11_areAlike : Cond) ∈ cw := cw_of (List.mem_append_right _ (List.mem_append_right _ (List.mem_append_right _ (List.mem_append_right _ (List.mem_append_right _ (List.mem_append_right _ (List.mem_append_right _ (List.mem_append_left _ (List.mem_of_getElem? (i := 171) (by decide +kernel)))))))))) (by decide +kernel)
theorem mw_sel_X11_areAlike : (Cond.selects RX11 yX11_areAlike yX11_areAlike : Cond) ∈ cw := cw_of (List.mem_append_left _ (List.mem_of_getElem? (i := 118) (by decide +kernel))) (by decide +kernel)
theorem mw_sel_X11_bestFor : (Cond.selects RX11 yX11_bestFor yX11_bestFor : Cond) ∈ cw := cw_of (List.mem_append_left _ (List.mem_of_getElem? (i := 111) (by decide +kernel))) (by decide +kernel)
theorem mw_sel_X11_fillsRest : (Cond.selects RX11 yX11_fillsRest yX11_fillsRest : Cond) ∈ cw := cw_of (List.mem_append_left _ (List.mem_of_getElem? (i := 115) (by decide +kernel))) (by decide +kernel)
theorem mw_sel_X11_isRest : (Cond.selects RX11 yX11_isRest yX11_isRest : Cond) ∈ cw := cw_of (List.mem_append_left _ (List.mem_of_getElem? (i := 117) (by decide +kernel))) (by decide +kernel)
theorem dX11_best_0 : decode cX11_best 0 = .ok (.aload_n 0, 1) := by decide +kernel
theorem dX11_best_1 : decode cX11_best 1 = .ok (.iload_n 1, 1) := by decide +kernel
theorem dX11_best_2 : decode cX11_best 2 = .ok (.invokevirtual 288, 3) := by decide +kernel
theorem dX11_best_5 : decode cX11_best 5 = .ok (.ifCond .eq 46, 3) := by decide +kernel
theorem dX11_best_8 : decode cX11_best 8 = .ok (.iload_n 2, 1) := by decide +kernel
theorem dX11_best_9 : decode cX11_best 9 = .ok (.i2l, 1) := by decide +kernel
theorem dX11_best_10 : decode cX11_best 10 = .ok (.lconst 1, 1) := by decide +kernel
theorem dX11_best_11 : decode cX11_best 11 = .ok (.ldc2_w 400, 3) := by decide +kernel
theorem dX11_best_14 : decode cX11_best 14 = .ok (.invokestatic 121, 3) := by decide +kernel
theorem dX11_best_17 : decode cX11_best 17 = .ok (.ifCond .eq 34, 3) := by decide +kernel
theorem dX11_best_20 : decode cX11_best 20 = .ok (.iload_n 3, 1) := by decide +kernel
theorem dX11_best_21 : decode cX11_best 21 = .ok (.i2l, 1) := by decide +kernel
theorem dX11_best_22 : decode cX11_best 22 = .ok (.lconst 0, 1) := by decide +kernel
theorem dX11_best_23 : decode cX11_best 23 = .ok (.lconst 1, 1) := by decide +kernel
theorem dX11_best_24 : decode cX11_best 24 = .ok (.invokestatic 121, 3) := by decide +kernel
theorem dX11_best_27 : decode cX11_best 27 = .ok (.ifCond .eq 24, 3) := by decide +kernel
theorem dX11_best_30 : decode cX11_best 30 = .ok (.aload_n 0, 1) := by decide +kernel
theorem dX11_best_31 : decode cX11_best 31 = .ok (.bipush 11, 2) := by decide +kernel
theorem dX11_best_33 : decode cX11_best 33 = .ok (.iconst 3, 1) := by decide +kernel
theorem dX11_best_34 : decode cX11_best 34 = .ok (.iload_n 1, 1) := by decide +kernel
theorem dX11_best_35 : decode cX11_best 35 = .ok (.imul, 1) := by decide +kernel
theorem dX11_best_36 : decode cX11_best 36 = .ok (.iadd, 1) := by decide +kernel
theorem dX11_best_37 : decode cX11_best 37 = .ok (.aload_n 0, 1) := by decide +kernel
theorem dX11_best_38 : decode cX11_best 38 = .ok (.getfield 39, 3) := by decide +kernel
theorem dX11_best_41 : decode cX11_best 41 = .ok (.iconst 1, 1) := by decide +kernel
theorem dX11_best_42 : decode cX11_best 42 = .ok (.iaload, 1) := by decide +kernel
theorem dX11_best_43 : decode cX11_best 43 = .ok (.iload_n 2, 1) := by decide +kernel
theorem dX11_best_44 : decode cX11_best 44 = .ok (.iload_n 3, 1) := by decide +kernel
theorem dX11_best_45 : decode cX11_best 45 = .ok (.invokevirtual 402, 3) := by decide +kernel
theorem dX11_best_48 : decode cX11_best 48 = .ok (.goto 4, 3) := by decide +kernel
theorem dX11_best_51 : decode cX11_best 51 = .ok (.iconst (-1), 1) := by decide +kernel
theorem dX11_best_52 : decode cX11_best 52 = .ok (.ireturn, 1) := by decide +kernel
theorem dX11_kind_0 : decode cX11_kind 0 = .ok (.aload_n 0, 1) := by decide +kernel
theorem dX11_kind_1 : decode cX11_kind 1 = .ok (.iload_n 1, 1) := by decide +kernel
theorem dX11_kind_2 : decode cX11_kind 2 = .ok (.invokevirtual 288, 3) := by decide +kernel
theorem dX11_kind_5 : decode cX11_kind 5 = .ok (.ifCond .eq 44, 3) := by decide +kernel
theorem dX11_kind_8 : decode cX11_kind 8 = .ok (.iload_n 2, 1) := by decide +kernel
theorem dX11_kind_9 : decode cX11_kind 9 = .ok (.i2l, 1) := by decide +kernel
theorem dX11_kind_10 : decode cX11_kind 10 = .ok (.lconst 1, 1) := by decide +kernel
theorem dX11_kind_11 : decode cX11_kind 11 = .ok (.ldc2_w 400, 3) := by decide +kernel
theorem dX11_kind_14 : decode cX11_kind 14 = .ok (.invokestatic 121, 3) := by decide +kernel
theorem dX11_kind_17 : decode cX11_kind 17 = .ok (.ifCond .eq 32, 3) := by decide +kernel
theorem dX11_kind_20 : decode cX11_kind 20 = .ok (.iload_n 3, 1) := by decide +kernel
theorem dX11_kind_21 : decode cX11_kind 21 = .ok (.i2l, 1) := by decide +kernel
theorem dX11_kind_22 : decode cX11_kind 22 = .ok (.lconst 0, 1) := by decide +kernel
theorem dX11_kind_23 : decode cX11_kind 23 = .ok (.lconst 1, 1) := by decide +kernel
theorem dX11_kind_24 : decode cX11_kind 24 = .ok (.invokestatic 121, 3) := by decide +kernel
theorem dX11_kind_27 : decode cX11_kind 27 = .ok (.ifCond .eq 22, 3) := by decide +kernel
theorem dX11_kind_30 : decode cX11_kind 30 = .ok (.aload_n 0, 1) := by decide +kernel
theorem dX11_kind_31 : decode cX11_kind 31 = .ok (.bipush 11, 2) := by decide +kernel
theorem dX11_kind_33 : decode cX11_kind 33 = .ok (.iconst 3, 1) := by decide +kernel
theorem dX11_kind_34 : decode cX11_kind 34 = .ok (.iload_n 1, 1) := by decide +kernel
theorem dX11_kind_35 : decode cX11_kind 35 = .ok (.imul, 1) := by decide +kernel
theorem dX11_kind_36 : decode cX11_kind 36 = .ok (.iadd, 1) := by decide +kernel
theorem dX11_kind_37 : decode cX11_kind 37 = .ok (.iconst 1, 1) := by decide +kernel
theorem dX11_kind_38 : decode cX11_kind 38 = .ok (.iadd, 1) := by decide +kernel
theorem dX11_kind_39 : decode cX11_kind 39 = .ok (.bipush 8, 2) := by decide +kernel
theorem dX11_kind_41 : decode cX11_kind 41 = .ok (.iload_n 2, 1) := by decide +kernel
theorem dX11_kind_42 : decode cX11_kind 42 = .ok (.iload_n 3, 1) := by decide +kernel
theorem dX11_kind_43 : decode cX11_kind 43 = .ok (.invokevirtual 402, 3) := by decide +kernel
theorem dX11_kind_46 : decode cX11_kind 46 = .ok (.goto 4, 3) := by decide +kernel
theorem dX11_kind_49 : decode cX11_kind 49 = .ok (.iconst (-1), 1) := by decide +kernel
theorem dX11_kind_50 : decode cX11_kind 50 = .ok (.ireturn, 1) := by decide +kernel
theorem dX11_rests_0 : decode cX11_rests 0 = .ok (.aload_n 0, 1) := by decide +kernel
theorem dX11_rests_1 : decode cX11_rests 1 = .ok (.iload_n 1, 1) := by decide +kernel
theorem dX11_rests_2 : decode cX11_rests 2 = .ok (.invokevirtual 288, 3) := by decide +kernel
theorem dX11_rests_5 : decode cX11_rests 5 = .ok (.ifCond .eq 41, 3) := by decide +kernel
theorem dX11_rests_8 : decode cX11_rests 8 = .ok (.aload_n 0, 1) := by decide +kernel
theorem dX11_rests_9 : decode cX11_rests 9 = .ok (.iload_n 2, 1) := by decide +kernel
theorem dX11_rests_10 : decode cX11_rests 10 = .ok (.invokevirtual 288, 3) := by decide +kernel
theorem dX11_rests_13 : decode cX11_rests 13 = .ok (.ifCond .eq 33, 3) := by decide +kernel
theorem dX11_rests_16 : decode cX11_rests 16 = .ok (.iload_n 1, 1) := by decide +kernel
theorem dX11_rests_17 : decode cX11_rests 17 = .ok (.iload_n 2, 1) := by decide +kernel
theorem dX11_rests_18 : decode cX11_rests 18 = .ok (.if_icmp .eq 28, 3) := by decide +kernel
theorem dX11_rests_21 : decode cX11_rests 21 = .ok (.iload_n 3, 1) := by decide +kernel
theorem dX11_rests_22 : decode cX11_rests 22 = .ok (.i2l, 1) := by decide +kernel
theorem dX11_rests_23 : decode cX11_rests 23 = .ok (.lconst 1, 1) := by decide +kernel
theorem dX11_rests_24 : decode cX11_rests 24 = .ok (.ldc2_w 415, 3) := by decide +kernel
theorem dX11_rests_27 : decode cX11_rests 27 = .ok (.invokestatic 121, 3) := by decide +kernel
theorem dX11_rests_30 : decode cX11_rests 30 = .ok (.ifCond .eq 16, 3) := by decide +kernel
theorem dX11_rests_33 : decode cX11_rests 33 = .ok (.iload 4, 2) := by decide +kernel
theorem dX11_rests_35 : decode cX11_rests 35 = .ok (.i2l, 1) := by decide +kernel
theorem dX11_rests_36 : decode cX11_rests 36 = .ok (.lconst 0, 1) := by decide +kernel
theorem dX11_rests_37 : decode cX11_rests 37 = .ok (.ldc2_w 371, 3) := by decide +kernel
theorem dX11_rests_40 : decode cX11_rests 40 = .ok (.invokestatic 121, 3) := by decide +kernel
theorem dX11_rests_43 : decode cX11_rests 43 = .ok (.ifCond .ne 5, 3) := by decide +kernel
theorem dX11_rests_46 : decode cX11_rests 46 = .ok (.iconst (-1), 1) := by decide +kernel
theorem dX11_rests_47 : decode cX11_rests 47 = .ok (.ireturn, 1) := by decide +kernel
theorem dX11_rests_48 : decode cX11_rests 48 = .ok (.aload_n 0, 1) := by decide +kernel
theorem dX11_rests_49 : decode cX11_rests 49 = .ok (.invokevirtual 373, 3) := by decide +kernel
theorem dX11_rests_52 : decode cX11_rests 52 = .ok (.iconst 0, 1) := by decide +kernel
theorem dX11_rests_53 : decode cX11_rests 53 = .ok (.istore 5, 2) := by decide +kernel
theorem dX11_rests_55 : decode cX11_rests 55 = .ok (.iload 5, 2) := by decide +kernel
theorem dX11_rests_57 : decode cX11_rests 57 = .ok (.aload_n 0, 1) := by decide +kernel
theorem dX11_rests_58 : decode cX11_rests 58 = .ok (.getfield 39, 3) := by decide +kernel
theorem dX11_rests_61 : decode cX11_rests 61 = .ok (.iconst 1, 1) := by decide +kernel
theorem dX11_rests_62 : decode cX11_rests 62 = .ok (.iaload, 1) := by decide +kernel
theorem dX11_rests_63 : decode cX11_rests 63 = .ok (.if_icmp .ge 40, 3) := by decide +kernel
theorem dX11_rests_66 : decode cX11_rests 66 = .ok (.iconst 0, 1) := by decide +kernel
theorem dX11_rests_67 : decode cX11_rests 67 = .ok (.istore 6, 2) := by decide +kernel
theorem dX11_rests_69 : decode cX11_rests 69 = .ok (.iload 6, 2) := by decide +kernel
theorem dX11_rests_71 : decode cX11_rests 71 = .ok (.aload_n 0, 1) := by decide +kernel
theorem dX11_rests_72 : decode cX11_rests 72 = .ok (.getfield 39, 3) := by decide +kernel
theorem dX11_rests_75 : decode cX11_rests 75 = .ok (.iconst 1, 1) := by decide +kernel
theorem dX11_rests_76 : decode cX11_rests 76 = .ok (.iaload, 1) := by decide +kernel
theorem dX11_rests_77 : decode cX11_rests 77 = .ok (.if_icmp .ge 20, 3) := by decide +kernel
theorem dX11_rests_80 : decode cX11_rests 80 = .ok (.aload_n 0, 1) := by decide +kernel
theorem dX11_rests_81 : decode cX11_rests 81 = .ok (.iload_n 1, 1) := by decide +kernel
theorem dX11_rests_82 : decode cX11_rests 82 = .ok (.iload_n 2, 1) := by decide +kernel
theorem dX11_rests_83 : decode cX11_rests 83 = .ok (.iload 5, 2) := by decide +kernel
theorem dX11_rests_85 : decode cX11_rests 85 = .ok (.iload 6, 2) := by decide +kernel
theorem dX11_rests_87 : decode cX11_rests 87 = .ok (.iload_n 3, 1) := by decide +kernel
theorem dX11_rests_88 : decode cX11_rests 88 = .ok (.invokevirtual 417, 3) := by decide +kernel
theorem dX11_rests_91 : decode cX11_rests 91 = .ok (.iinc 6 1, 3) := by decide +kernel
theorem dX11_rests_94 : decode cX11_rests 94 = .ok (.goto (-25), 3) := by decide +kernel
theorem dX11_rests_97 : decode cX11_rests 97 = .ok (.iinc 5 1, 3) := by decide +kernel
theorem dX11_rests_100 : decode cX11_rests 100 = .ok (.goto (-45), 3) := by decide +kernel
theorem dX11_rests_103 : decode cX11_rests 103 = .ok (.iconst 0, 1) := by decide +kernel
theorem dX11_rests_104 : decode cX11_rests 104 = .ok (.istore 5, 2) := by decide +kernel
theorem dX11_rests_106 : decode cX11_rests 106 = .ok (.iconst (-1), 1) := by decide +kernel
theorem dX11_rests_107 : decode cX11_rests 107 = .ok (.istore 6, 2) := by decide +kernel
theorem dX11_rests_109 : decode cX11_rests 109 = .ok (.aload_n 0, 1) := by decide +kernel
theorem dX11_rests_110 : decode cX11_rests 110 = .ok (.getfield 39, 3) := by decide +kernel
theorem dX11_rests_113 : decode cX11_rests 113 = .ok (.iconst 1, 1) := by decide +kernel
theorem dX11_rests_114 : decode cX11_rests 114 = .ok (.iaload, 1) := by decide +kernel
theorem dX11_rests_115 : decode cX11_rests 115 = .ok (.iconst 1, 1) := by decide +kernel
theorem dX11_rests_116 : decode cX11_rests 116 = .ok (.isub, 1) := by decide +kernel
theorem dX11_rests_117 : decode cX11_rests 117 = .ok (.istore 7, 2) := by decide +kernel
theorem dX11_rests_119 : decode cX11_rests 119 = .ok (.iload 7, 2) := by decide +kernel
theorem dX11_rests_121 : decode cX11_rests 121 = .ok (.ifCond .lt 57, 3) := by decide +kernel
theorem dX11_rests_124 : decode cX11_rests 124 = .ok (.aload_n 0, 1) := by decide +kernel
theorem dX11_rests_125 : decode cX11_rests 125 = .ok (.getfield 39, 3) := by decide +kernel
theorem dX11_rests_128 : decode cX11_rests 128 = .ok (.iconst 1, 1) := by decide +kernel
theorem dX11_rests_129 : decode cX11_rests 129 = .ok (.iaload, 1) := by decide +kernel
theorem dX11_rests_130 : decode cX11_rests 130 = .ok (.iconst 1, 1) := by decide +kernel
theorem dX11_rests_131 : decode cX11_rests 131 = .ok (.isub, 1) := by decide +kernel
theorem dX11_rests_132 : decode cX11_rests 132 = .ok (.istore 8, 2) := by decide +kernel
theorem dX11_rests_134 : decode cX11_rests 134 = .ok (.iload 8, 2) := by decide +kernel
theorem dX11_rests_136 : decode cX11_rests 136 = .ok (.ifCond .lt 36, 3) := by decide +kernel
theorem dX11_rests_139 : decode cX11_rests 139 = .ok (.aload_n 0, 1) := by decide +kernel
theorem dX11_rests_140 : decode cX11_rests 140 = .ok (.iload 7, 2) := by decide +kernel
theorem dX11_rests_142 : decode cX11_rests 142 = .ok (.iload 8, 2) := by decide +kernel
theorem dX11_rests_144 : decode cX11_rests 144 = .ok (.invokevirtual 421, 3) := by decide +kernel
theorem dX11_rests_147 : decode cX11_rests 147 = .ok (.ifCond .ne 6, 3) := by decide +kernel
theorem dX11_rests_150 : decode cX11_rests 150 = .ok (.goto 16, 3) := by decide +kernel
theorem dX11_rests_153 : decode cX11_rests 153 = .ok (.bipush 8, 2) := by decide +kernel
theorem dX11_rests_155 : decode cX11_rests 155 = .ok (.iload 7, 2) := by decide +kernel
theorem dX11_rests_157 : decode cX11_rests 157 = .ok (.imul, 1) := by decide +kernel
theorem dX11_rests_158 : decode cX11_rests 158 = .ok (.iload 8, 2) := by decide +kernel
theorem dX11_rests_160 : decode cX11_rests 160 = .ok (.iadd, 1) := by decide +kernel
theorem dX11_rests_161 : decode cX11_rests 161 = .ok (.istore 6, 2) := by decide +kernel
theorem dX11_rests_163 : decode cX11_rests 163 = .ok (.iinc 5 1, 3) := by decide +kernel
theorem dX11_rests_166 : decode cX11_rests 166 = .ok (.iinc 8 (-1), 3) := by decide +kernel
theorem dX11_rests_169 : decode cX11_rests 169 = .ok (.goto (-35), 3) := by decide +kernel
theorem dX11_rests_172 : decode cX11_rests 172 = .ok (.iinc 7 (-1), 3) := by decide +kernel
theorem dX11_rests_175 : decode cX11_rests 175 = .ok (.goto (-56), 3) := by decide +kernel
theorem dX11_rests_178 : decode cX11_rests 178 = .ok (.iload 4, 2) := by decide +kernel
theorem dX11_rests_180 : decode cX11_rests 180 = .ok (.ifCond .ne 6, 3) := by decide +kernel
theorem dX11_rests_183 : decode cX11_rests 183 = .ok (.iload 5, 2) := by decide +kernel
theorem dX11_rests_185 : decode cX11_rests 185 = .ok (.ireturn, 1) := by decide +kernel
theorem dX11_rests_186 : decode cX11_rests 186 = .ok (.iload 6, 2) := by decide +kernel
theorem dX11_rests_188 : decode cX11_rests 188 = .ok (.ifCond .ge 8, 3) := by decide +kernel
theorem dX11_rests_191 : decode cX11_rests 191 = .ok (.bipush (-2), 2) := by decide +kernel
theorem dX11_rests_193 : decode cX11_rests 193 = .ok (.goto 22, 3) := by decide +kernel
theorem dX11_rests_196 : decode cX11_rests 196 = .ok (.iload 4, 2) := by decide +kernel
theorem dX11_rests_198 : decode cX11_rests 198 = .ok (.iconst 1, 1) := by decide +kernel
theorem dX11_rests_199 : decode cX11_rests 199 = .ok (.if_icmp .ne 11, 3) := by decide +kernel
theorem dX11_rests_202 : decode cX11_rests 202 = .ok (.iload 6, 2) := by decide +kernel
theorem dX11_rests_204 : decode cX11_rests 204 = .ok (.bipush 8, 2) := by decide +kernel
theorem dX11_rests_206 : decode cX11_rests 206 = .ok (.idiv, 1) := by decide +kernel
theorem dX11_rests_207 : decode cX11_rests 207 = .ok (.goto 8, 3) := by decide +kernel
theorem dX11_rests_210 : decode cX11_rests 210 = .ok (.iload 6, 2) := by decide +kernel
theorem dX11_rests_212 : decode cX11_rests 212 = .ok (.bipush 8, 2) := by decide +kernel
theorem dX11_rests_214 : decode cX11_rests 214 = .ok (.irem, 1) := by decide +kernel
theorem dX11_rests_215 : decode cX11_rests 215 = .ok (.ireturn, 1) := by decide +kernel
theorem dX11_ring_0 : decode cX11_ring 0 = .ok (.aload_n 0, 1) := by decide +kernel
theorem dX11_ring_1 : decode cX11_ring 1 = .ok (.invokevirtual 359, 3) := by decide +kernel
theorem dX11_ring_4 : decode cX11_ring 4 = .ok (.ifCond .eq 13, 3) := by decide +kernel
theorem dX11_ring_7 : decode cX11_ring 7 = .ok (.iload_n 1, 1) := by decide +kernel
theorem dX11_ring_8 : decode cX11_ring 8 = .ok (.i2l, 1) := by decide +kernel
theorem dX11_ring_9 : decode cX11_ring 9 = .ok (.lconst 0, 1) := by decide +kernel
theorem dX11_ring_10 : decode cX11_ring 10 = .ok (.lconst 1, 1) := by decide +kernel
theorem dX11_ring_11 : decode cX11_ring 11 = .ok (.invokestatic 121, 3) := by decide +kernel
theorem dX11_ring_14 : decode cX11_ring 14 = .ok (.ifCond .ne 5, 3) := by decide +kernel
theorem dX11_ring_17 : decode cX11_ring 17 = .ok (.iconst (-1), 1) := by decide +kernel
theorem dX11_ring_18 : decode cX11_ring 18 = .ok (.ireturn, 1) := by decide +kernel
theorem dX11_ring_19 : decode cX11_ring 19 = .ok (.aload_n 0, 1) := by decide +kernel
theorem dX11_ring_20 : decode cX11_ring 20 = .ok (.invokevirtual 373, 3) := by decide +kernel
theorem dX11_ring_23 : decode cX11_ring 23 = .ok (.iconst 0, 1) := by decide +kernel
theorem dX11_ring_24 : decode cX11_ring 24 = .ok (.istore_n 2, 1) := by decide +kernel
theorem dX11_ring_25 : decode cX11_ring 25 = .ok (.iload_n 2, 1) := by decide +kernel
theorem dX11_ring_26 : decode cX11_ring 26 = .ok (.bipush 60, 2) := by decide +kernel
theorem dX11_ring_28 : decode cX11_ring 28 = .ok (.if_icmp .gt 58, 3) := by decide +kernel
theorem dX11_ring_31 : decode cX11_ring 31 = .ok (.iconst 0, 1) := by decide +kernel
theorem dX11_ring_32 : decode cX11_ring 32 = .ok (.istore_n 3, 1) := by decide +kernel
theorem dX11_ring_33 : decode cX11_ring 33 = .ok (.iload_n 3, 1) := by decide +kernel
theorem dX11_ring_34 : decode cX11_ring 34 = .ok (.iconst 5, 1) := by decide +kernel
theorem dX11_ring_35 : decode cX11_ring 35 = .ok (.if_icmp .ge 25, 3) := by decide +kernel
theorem dX11_ring_38 : decode cX11_ring 38 = .ok (.aload_n 0, 1) := by decide +kernel
theorem dX11_ring_39 : decode cX11_ring 39 = .ok (.getfield 61, 3) := by decide +kernel
theorem dX11_ring_42 : decode cX11_ring 42 = .ok (.bipush 6, 2) := by decide +kernel
theorem dX11_ring_44 : decode cX11_ring 44 = .ok (.iload_n 2, 1) := by decide +kernel
theorem dX11_ring_45 : decode cX11_ring 45 = .ok (.imul, 1) := by decide +kernel
theorem dX11_ring_46 : decode cX11_ring 46 = .ok (.iload_n 3, 1) := by decide +kernel
theorem dX11_ring_47 : decode cX11_ring 47 = .ok (.iadd, 1) := by decide +kernel
theorem dX11_ring_48 : decode cX11_ring 48 = .ok (.aload_n 0, 1) := by decide +kernel
theorem dX11_ring_49 : decode cX11_ring 49 = .ok (.iload_n 3, 1) := by decide +kernel
theorem dX11_ring_50 : decode cX11_ring 50 = .ok (.invokevirtual 291, 3) := by decide +kernel
theorem dX11_ring_53 : decode cX11_ring 53 = .ok (.iastore, 1) := by decide +kernel
theorem dX11_ring_54 : decode cX11_ring 54 = .ok (.iinc 3 1, 3) := by decide +kernel
theorem dX11_ring_57 : decode cX11_ring 57 = .ok (.goto (-24), 3) := by decide +kernel
theorem dX11_ring_60 : decode cX11_ring 60 = .ok (.aload_n 0, 1) := by decide +kernel
theorem dX11_ring_61 : decode cX11_ring 61 = .ok (.getfield 61, 3) := by decide +kernel
theorem dX11_ring_64 : decode cX11_ring 64 = .ok (.bipush 6, 2) := by decide +kernel
theorem dX11_ring_66 : decode cX11_ring 66 = .ok (.iload_n 2, 1) := by decide +kernel
theorem dX11_ring_67 : decode cX11_ring 67 = .ok (.imul, 1) := by decide +kernel
theorem dX11_ring_68 : decode cX11_ring 68 = .ok (.iconst 5, 1) := by decide +kernel
theorem dX11_ring_69 : decode cX11_ring 69 = .ok (.iadd, 1) := by decide +kernel
theorem dX11_ring_70 : decode cX11_ring 70 = .ok (.aload_n 0, 1) := by decide +kernel
theorem dX11_ring_71 : decode cX11_ring 71 = .ok (.invokevirtual 379, 3) := by decide +kernel
theorem dX11_ring_74 : decode cX11_ring 74 = .ok (.iastore, 1) := by decide +kernel
theorem dX11_ring_75 : decode cX11_ring 75 = .ok (.aload_n 0, 1) := by decide +kernel
theorem dX11_ring_76 : decode cX11_ring 76 = .ok (.invokevirtual 356, 3) := by decide +kernel
theorem dX11_ring_79 : decode cX11_ring 79 = .ok (.pop, 1) := by decide +kernel
theorem dX11_ring_80 : decode cX11_ring 80 = .ok (.iinc 2 1, 3) := by decide +kernel
theorem dX11_ring_83 : decode cX11_ring 83 = .ok (.goto (-58), 3) := by decide +kernel
theorem dX11_ring_86 : decode cX11_ring 86 = .ok (.aload_n 0, 1) := by decide +kernel
theorem dX11_ring_87 : decode cX11_ring 87 = .ok (.invokevirtual 382, 3) := by decide +kernel
theorem dX11_ring_90 : decode cX11_ring 90 = .ok (.iconst 0, 1) := by decide +kernel
theorem dX11_ring_91 : decode cX11_ring 91 = .ok (.istore_n 2, 1) := by decide +kernel
theorem dX11_ring_92 : decode cX11_ring 92 = .ok (.iload_n 2, 1) := by decide +kernel
theorem dX11_ring_93 : decode cX11_ring 93 = .ok (.bipush 60, 2) := by decide +kernel
theorem dX11_ring_95 : decode cX11_ring 95 = .ok (.if_icmp .ge 54, 3) := by decide +kernel
theorem dX11_ring_98 : decode cX11_ring 98 = .ok (.iload_n 2, 1) := by decide +kernel
theorem dX11_ring_99 : decode cX11_ring 99 = .ok (.iconst 1, 1) := by decide +kernel
theorem dX11_ring_100 : decode cX11_ring 100 = .ok (.iadd, 1) := by decide +kernel
theorem dX11_ring_101 : decode cX11_ring 101 = .ok (.istore_n 3, 1) := by decide +kernel
theorem dX11_ring_102 : decode cX11_ring 102 = .ok (.iload_n 3, 1) := by decide +kernel
theorem dX11_ring_103 : decode cX11_ring 103 = .ok (.bipush 60, 2) := by decide +kernel
theorem dX11_ring_105 : decode cX11_ring 105 = .ok (.if_icmp .gt 38, 3) := by decide +kernel
theorem dX11_ring_108 : decode cX11_ring 108 = .ok (.aload_n 0, 1) := by decide +kernel
theorem dX11_ring_109 : decode cX11_ring 109 = .ok (.iload_n 2, 1) := by decide +kernel
theorem dX11_ring_110 : decode cX11_ring 110 = .ok (.iload_n 3, 1) := by decide +kernel
theorem dX11_ring_111 : decode cX11_ring 111 = .ok (.invokevirtual 424, 3) := by decide +kernel
theorem dX11_ring_114 : decode cX11_ring 114 = .ok (.ifCond .eq 23, 3) := by decide +kernel
theorem dX11_ring_117 : decode cX11_ring 117 = .ok (.iload_n 1, 1) := by decide +kernel
theorem dX11_ring_118 : decode cX11_ring 118 = .ok (.ifCond .ne 15, 3) := by decide +kernel
theorem dX11_ring_121 : decode cX11_ring 121 = .ok (.aload_n 0, 1) := by decide +kernel
theorem dX11_ring_122 : decode cX11_ring 122 = .ok (.getfield 39, 3) := by decide +kernel
theorem dX11_ring_125 : decode cX11_ring 125 = .ok (.bipush 10, 2) := by decide +kernel
theorem dX11_ring_127 : decode cX11_ring 127 = .ok (.iaload, 1) := by decide +kernel
theorem dX11_ring_128 : decode cX11_ring 128 = .ok (.iload_n 2, 1) := by decide +kernel
theorem dX11_ring_129 : decode cX11_ring 129 = .ok (.iadd, 1) := by decide +kernel
theorem dX11_ring_130 : decode cX11_ring 130 = .ok (.goto 6, 3) := by decide +kernel
theorem dX11_ring_133 : decode cX11_ring 133 = .ok (.iload_n 3, 1) := by decide +kernel
theorem dX11_ring_134 : decode cX11_ring 134 = .ok (.iload_n 2, 1) := by decide +kernel
theorem dX11_ring_135 : decode cX11_ring 135 = .ok (.isub, 1) := by decide +kernel
theorem dX11_ring_136 : decode cX11_ring 136 = .ok (.ireturn, 1) := by decide +kernel
theorem dX11_ring_137 : decode cX11_ring 137 = .ok (.iinc 3 1, 3) := by decide +kernel
theorem dX11_ring_140 : decode cX11_ring 140 = .ok (.goto (-38), 3) := by decide +kernel
theorem dX11_ring_143 : decode cX11_ring 143 = .ok (.iinc 2 1, 3) := by decide +kernel
theorem dX11_ring_146 : decode cX11_ring 146 = .ok (.goto (-54), 3) := by decide +kernel
theorem dX11_ring_149 : decode cX11_ring 149 = .ok (.bipush (-2), 2) := by decide +kernel
theorem dX11_ring_151 : decode cX11_ring 151 = .ok (.ireturn, 1) := by decide +kernel
theorem hd_X11_areAlike : yX11_areAlike.cls ≠ "java/lang/invoke/MethodHandle" ∧ yX11_areAlike.cls ≠ "java/lang/invoke/VarHandle" ∧ (parseMethodDescriptor yX11_areAlike.desc).map (fun d => d.parameters.length) = some 2 := ⟨by decide +kernel, by decide +kernel, by decide +kernel⟩
theorem hd_X11_bestFor : yX11_bestFor.cls ≠ "java/lang/invoke/MethodHandle" ∧ yX11_bestFor.cls ≠ "java/lang/invoke/VarHandle" ∧ (parseMethodDescriptor yX11_bestFor.desc).map (fun d => d.parameters.length) = some 4 := ⟨by decide +kernel, by decide +kernel, by decide +kernel⟩
theorem hd_X11_fillsRest : yX11_fillsRest.cls ≠ "java/lang/invoke/MethodHandle" ∧ yX11_fillsRest.cls ≠ "java/lang/invoke/VarHandle" ∧ (parseMethodDescriptor yX11_fillsRest.desc).map (fun d => d.parameters.length) = some 5 := ⟨by decide +kernel, by decide +kernel, by decide +kernel⟩
theorem hd_X11_isRest : yX11_isRest.cls ≠ "java/lang/invoke/MethodHandle" ∧ yX11_isRest.cls ≠ "java/lang/invoke/VarHandle" ∧ (parseMethodDescriptor yX11_isRest.desc).map (fun d => d.parameters.length) = some 2 := ⟨by decide +kernel, by decide +kernel, by decide +kernel⟩
set_option maxHeartbeats 4000000 in
set_option maxRecDepth 100000 in
theorem v_best (l : Launch) (D : va_G) (K : Nat → ClassId) (ad : Nat → Nat) (z : TS) (o : Ok z) (x1 : Int32) (x2 : Int32) (x3 : Int32) (wf : WFc z) : cI l yX11_best cX11_best 4 .int ({ frames := 10, cells := 0, slots := 0, locals := 240 }) D K ad z [.ref (ad 386), .int x1, .int x2, .int x3] (fun r u => Ok u ∧ KM z u) := by
  refine t_enterI (by decide) (Nat.le_of_ble_eq_true rfl) rfl rfl ?_
  intro p e s m args below meth c A R Q H locs ls E hfr hlo RET G hl
  have E : mE p s m meth c cX11_best args 4 RX11 D K A := E
  have hl : lv_has ls 4 [(0, .ref (ad 386)), (1, .int x1), (2, .int x2), (3, .int x3)] := hl
  refine lv_aload_n E.1 E.2.1 dX11_best_0 rfl (lv_at hl 0 rfl) ?_
  refine lv_iload_n E.1 E.2.1 dX11_best_1 rfl (lv_at hl 1 rfl) ?_
  refine t_vi E G hl (v_isLaid l D K ad z o x1) 11 (rfl : ro 386 = 11) (by decide) rfl rfl 1 rfl mw_code_X11_isLaid mw_ini_11 mw_ml_11_288 mw_inst_X11_isLaid mw_sel_X11_isLaid hd_X11_isLaid ⟨Nat.le_trans (by decide) hfr, Nat.le_trans (by decide) hlo⟩ rfl rfl rfl (Nat.le_of_ble_eq_true rfl) dX11_best_2 (fun r2 zz1 H locs hp3 G => ?_)
  obtain ⟨hz6, b4, h5⟩ := hp3
  rw [hz6] at G
  refine lv_if_eq (tgt := 51) E.1 E.2.1 dX11_best_5 (by decide) (fun c7 => ?_) (fun c7 => ?_)
  · skip
    have b8 : iv 0 0 r2 := iv_eq c7 (iv_lit (lo := 0) (hi := 0) 0 (by decide) (by decide))
    refine lv_iconst (v := (-1)) E.1 E.2.1 dX11_best_51 (by decide) ?_
    exact RET G ⟨o, KF.rf⟩ rfl dX11_best_52
  · skip
    have b9 : iv 1 1 r2 := ne_lo c7 b4 (by decide) (by decide)
    have b10 : iv 0 5 x1 := h5 c7
    refine lv_iload_n E.1 E.2.1 dX11_best_8 rfl (lv_at hl 2 rfl) ?_
    refine lv_i2l E.1 E.2.1 dX11_best_9 rfl ?_
    refine lv_topl (fun v11 e12 => ?_)
    refine lv_lconst (v := 1) E.1 E.2.1 dX11_best_10 (by decide) ?_
    refine lv_ldc2 (v := 40) E.1 E.2.1 E.2.2.2.1 (E.2.2.2.2.1 _ mw_cL_11_400) dX11_best_11 ?_
    refine t_si E G hl (v_in l D K ad z o v11 1 40) 3 rfl mw_code_X11_in mw_ini_11 mw_ml_11_121 mw_stat_X11_in hd_X11_in ⟨Nat.le_trans (by decide) hfr, Nat.le_trans (by decide) hlo⟩ rfl rfl rfl (Nat.le_of_ble_eq_true rfl) dX11_best_14 (fun r14 zz13 H locs hp15 G => ?_)
    obtain ⟨hz18, b16, h17⟩ := hp15
    rw [hz18] at G
    refine lv_if_eq (tgt := 51) E.1 E.2.1 dX11_best_17 (by decide) (fun c19 => ?_) (fun c19 => ?_)
    · skip
      have b20 : iv 0 0 r14 := iv_eq c19 (iv_lit (lo := 0) (hi := 0) 0 (by decide) (by decide))
      refine lv_iconst (v := (-1)) E.1 E.2.1 dX11_best_51 (by decide) ?_
      exact RET G ⟨o, KF.rf⟩ rfl dX11_best_52
    · skip
      have b21 : iv 1 1 r14 := ne_lo c19 b16 (by decide) (by decide)
      have b22 : iv 1 40 x2 := (fun q => in_iv e12 (h17 q) (by decide) (by decide)) c19
      refine lv_iload_n E.1 E.2.1 dX11_best_20 rfl (lv_at hl 3 rfl) ?_
      refine lv_i2l E.1 E.2.1 dX11_best_21 rfl ?_
      refine lv_topl (fun v23 e24 => ?_)
      refine lv_lconst (v := 0) E.1 E.2.1 dX11_best_22 (by decide) ?_
      refine lv_lconst (v := 1) E.1 E.2.1 dX11_best_23 (by decide) ?_
      refine t_si E G hl (v_in l D K ad z o v23 0 1) 3 rfl mw_code_X11_in mw_ini_11 mw_ml_11_121 mw_stat_X11_in hd_X11_in ⟨Nat.le_trans (by decide) hfr, Nat.le_trans (by decide) hlo⟩ rfl rfl rfl (Nat.le_of_ble_eq_true rfl) dX11_best_24 (fun r26 zz25 H locs hp27 G => ?_)
      obtain ⟨hz30, b28, h29⟩ := hp27
      rw [hz30] at G
      refine lv_if_eq (tgt := 51) E.1 E.2.1 dX11_best_27 (by decide) (fun c31 => ?_) (fun c31 => ?_)
      · skip
        have b32 : iv 0 0 r26 := iv_eq c31 (iv_lit (lo := 0) (hi := 0) 0 (by decide) (by decide))
        refine lv_iconst (v := (-1)) E.1 E.2.1 dX11_best_51 (by decide) ?_
        exact RET G ⟨o, KF.rf⟩ rfl dX11_best_52
      · skip
        have b33 : iv 1 1 r26 := ne_lo c31 b28 (by decide) (by decide)
        have b34 : iv 0 1 x3 := (fun q => in_iv e24 (h29 q) (by decide) (by decide)) c31
        refine lv_aload_n E.1 E.2.1 dX11_best_30 rfl (lv_at hl 0 rfl) ?_
        refine lv_bipush (v := 11) E.1 E.2.1 dX11_best_31 (by decide) ?_
        refine lv_iconst (v := 3) E.1 E.2.1 dX11_best_33 (by decide) ?_
        refine lv_iload_n E.1 E.2.1 dX11_best_34 rfl (lv_at hl 1 rfl) ?_
        refine lv_imul E.1 E.2.1 dX11_best_35 ?_
        refine lv_topi (fun v35 e36 => ?_)
        have b37 : iv 0 15 v35 := by rw [e36]; exact iv_mulc' b10 3 (by decide) (by decide) (by decide) (by decide) (by decide) (by decide)
        have l38 : v35.toInt = 0 + 3 * x1.toInt := (show v35.toInt = 3 * x1.toInt by rw [e36]; exact ti_cmul 3 (by decide) (by decide) b10 (by decide) (by decide)).trans (by omega)
        refine lv_iadd E.1 E.2.1 dX11_best_36 ?_
        refine lv_topi (fun v39 e40 => ?_)
        have b41 : iv 11 26 v39 := by rw [e40]; exact iv_add (iv_lit (lo := 11) (hi := 11) 11 (by decide) (by decide)) b37 (by decide) (by decide) (by decide) (by decide)
        have l42 : v39.toInt = 11 + 3 * x1.toInt := (show v39.toInt = 11 + v35.toInt by rw [e40]; exact ti_cadd 11 (by decide) b37 (by decide) (by decide)).trans (by omega)
        refine lv_aload_n E.1 E.2.1 dX11_best_37 rfl (lv_at hl 0 rfl) ?_
        refine t_get E G 11 20 (rfl : ro 386 = 11) (C := RX11) (T := TX11) (N := 37) rfl (by decide) (by decide) (by decide) mw_fl_11_39 (v := .ref (ad 396)) (fvl_o (n := 10) rfl) dX11_best_38 ?_
        refine lv_iconst (v := 1) E.1 E.2.1 dX11_best_41 (by decide) ?_
        refine t_iald E G 54 (rfl : ro 396 = 54) (by decide) (by decide) rfl (n := 127) rfl (by unfold vp_in; decide) dX11_best_42 ?_
        refine lv_topi (fun v43 e44 => ?_)
        have b45 : iv 0 8 v43 := by rw [e44]; exact iv_mono (o.a 54 (rfl : ro 396 = 54) _) (by decide +kernel) (by decide +kernel)
        refine lv_iload_n E.1 E.2.1 dX11_best_43 rfl (lv_at hl 2 rfl) ?_
        refine lv_iload_n E.1 E.2.1 dX11_best_44 rfl (lv_at hl 3 rfl) ?_
        refine t_vi E G hl (v_bestFor l D K ad z o v39 (iv_mono b41 (by decide) (by decide)) v43 (iv_mono b45 (by decide) (by decide)) x2 (iv_mono b22 (by decide) (by decide)) x3 wf) 11 (rfl : ro 386 = 11) (by decide) rfl rfl 4 rfl mw_code_X11_bestFor mw_ini_11 mw_ml_11_402 mw_inst_X11_bestFor mw_sel_X11_bestFor hd_X11_bestFor ⟨Nat.le_trans (by decide) hfr, Nat.le_trans (by decide) hlo⟩ rfl rfl rfl (Nat.le_of_ble_eq_true rfl) dX11_best_45 (fun r47 zz46 H locs hp48 G => ?_)
        obtain ⟨oo49, kk50⟩ := hp48
        have kk51 : KM z zz46 := KF.tr KF.rf kk50
        refine lv_goto (tgt := 52) E.1 E.2.1 dX11_best_48 (by decide) ?_
        exact RET G ⟨oo49, kk51⟩ rfl dX11_best_52
set_option maxHeartbeats 4000000 in
set_option maxRecDepth 100000 in
theorem v_kind (l : Launch) (D : va_G) (K : Nat → ClassId) (ad : Nat → Nat) (z : TS) (o : Ok z) (x1 : Int32) (x2 : Int32) (x3 : Int32) (wf : WFc z) : cI l yX11_kind cX11_kind 4 .int ({ frames := 10, cells := 0, slots := 0, locals := 240 }) D K ad z [.ref (ad 386), .int x1, .int x2, .int x3] (fun r u => Ok u ∧ KM z u) := by
  refine t_enterI (by decide) (Nat.le_of_ble_eq_true rfl) rfl rfl ?_
  intro p e s m args below meth c A R Q H locs ls E hfr hlo RET G hl
  have E : mE p s m meth c cX11_kind args 4 RX11 D K A := E
  have hl : lv_has ls 4 [(0, .ref (ad 386)), (1, .int x1), (2, .int x2), (3, .int x3)] := hl
  refine lv_aload_n E.1 E.2.1 dX11_kind_0 rfl (lv_at hl 0 rfl) ?_
  refine lv_iload_n E.1 E.2.1 dX11_kind_1 rfl (lv_at hl 1 rfl) ?_
  refine t_vi E G hl (v_isLaid l D K ad z o x1) 11 (rfl : ro 386 = 11) (by decide) rfl rfl 1 rfl mw_code_X11_isLaid mw_ini_11 mw_ml_11_288 mw_inst_X11_isLaid mw_sel_X11_isLaid hd_X11_isLaid ⟨Nat.le_trans (by decide) hfr, Nat.le_trans (by decide) hlo⟩ rfl rfl rfl (Nat.le_of_ble_eq_true rfl) dX11_kind_2 (fun r2 zz1 H locs hp3 G => ?_)
  obtain ⟨hz6, b4, h5⟩ := hp3
  rw [hz6] at G
  refine lv_if_eq (tgt := 49) E.1 E.2.1 dX11_kind_5 (by decide) (fun c7 => ?_) (fun c7 => ?_)
  · skip
    have b8 : iv 0 0 r2 := iv_eq c7 (iv_lit (lo := 0) (hi := 0) 0 (by decide) (by decide))
    refine lv_iconst (v := (-1)) E.1 E.2.1 dX11_kind_49 (by decide) ?_
    exact RET G ⟨o, KF.rf⟩ rfl dX11_kind_50
  · skip
    have b9 : iv 1 1 r2 := ne_lo c7 b4 (by decide) (by decide)
    have b10 : iv 0 5 x1 := h5 c7
    refine lv_iload_n E.1 E.2.1 dX11_kind_8 rfl (lv_at hl 2 rfl) ?_
    refine lv_i2l E.1 E.2.1 dX11_kind_9 rfl ?_
    refine lv_topl (fun v11 e12 => ?_)
    refine lv_lconst (v := 1) E.1 E.2.1 dX11_kind_10 (by decide) ?_
    refine lv_ldc2 (v := 40) E.1 E.2.1 E.2.2.2.1 (E.2.2.2.2.1 _ mw_cL_11_400) dX11_kind_11 ?_
    refine t_si E G hl (v_in l D K ad z o v11 1 40) 3 rfl mw_code_X11_in mw_ini_11 mw_ml_11_121 mw_stat_X11_in hd_X11_in ⟨Nat.le_trans (by decide) hfr, Nat.le_trans (by decide) hlo⟩ rfl rfl rfl (Nat.le_of_ble_eq_true rfl) dX11_kind_14 (fun r14 zz13 H locs hp15 G => ?_)
    obtain ⟨hz18, b16, h17⟩ := hp15
    rw [hz18] at G
    refine lv_if_eq (tgt := 49) E.1 E.2.1 dX11_kind_17 (by decide) (fun c19 => ?_) (fun c19 => ?_)
    · skip
      have b20 : iv 0 0 r14 := iv_eq c19 (iv_lit (lo := 0) (hi := 0) 0 (by decide) (by decide))
      refine lv_iconst (v := (-1)) E.1 E.2.1 dX11_kind_49 (by decide) ?_
      exact RET G ⟨o, KF.rf⟩ rfl dX11_kind_50
    · skip
      have b21 : iv 1 1 r14 := ne_lo c19 b16 (by decide) (by decide)
      have b22 : iv 1 40 x2 := (fun q => in_iv e12 (h17 q) (by decide) (by decide)) c19
      refine lv_iload_n E.1 E.2.1 dX11_kind_20 rfl (lv_at hl 3 rfl) ?_
      refine lv_i2l E.1 E.2.1 dX11_kind_21 rfl ?_
      refine lv_topl (fun v23 e24 => ?_)
      refine lv_lconst (v := 0) E.1 E.2.1 dX11_kind_22 (by decide) ?_
      refine lv_lconst (v := 1) E.1 E.2.1 dX11_kind_23 (by decide) ?_
      refine t_si E G hl (v_in l D K ad z o v23 0 1) 3 rfl mw_code_X11_in mw_ini_11 mw_ml_11_121 mw_stat_X11_in hd_X11_in ⟨Nat.le_trans (by decide) hfr, Nat.le_trans (by decide) hlo⟩ rfl rfl rfl (Nat.le_of_ble_eq_true rfl) dX11_kind_24 (fun r26 zz25 H locs hp27 G => ?_)
      obtain ⟨hz30, b28, h29⟩ := hp27
      rw [hz30] at G
      refine lv_if_eq (tgt := 49) E.1 E.2.1 dX11_kind_27 (by decide) (fun c31 => ?_) (fun c31 => ?_)
      · skip
        have b32 : iv 0 0 r26 := iv_eq c31 (iv_lit (lo := 0) (hi := 0) 0 (by decide) (by decide))
        refine lv_iconst (v := (-1)) E.1 E.2.1 dX11_kind_49 (by decide) ?_
        exact RET G ⟨o, KF.rf⟩ rfl dX11_kind_50
      · skip
        have b33 : iv 1 1 r26 := ne_lo c31 b28 (by decide) (by decide)
        have b34 : iv 0 1 x3 := (fun q => in_iv e24 (h29 q) (by decide) (by decide)) c31
        refine lv_aload_n E.1 E.2.1 dX11_kind_30 rfl (lv_at hl 0 rfl) ?_
        refine lv_bipush (v := 11) E.1 E.2.1 dX11_kind_31 (by decide) ?_
        refine lv_iconst (v := 3) E.1 E.2.1 dX11_kind_33 (by decide) ?_
        refine lv_iload_n E.1 E.2.1 dX11_kind_34 rfl (lv_at hl 1 rfl) ?_
        refine lv_imul E.1 E.2.1 dX11_kind_35 ?_
        refine lv_topi (fun v35 e36 => ?_)
        have b37 : iv 0 15 v35 := by rw [e36]; exact iv_mulc' b10 3 (by decide) (by decide) (by decide) (by decide) (by decide) (by decide)
        have l38 : v35.toInt = 0 + 3 * x1.toInt := (show v35.toInt = 3 * x1.toInt by rw [e36]; exact ti_cmul 3 (by decide) (by decide) b10 (by decide) (by decide)).trans (by omega)
        refine lv_iadd E.1 E.2.1 dX11_kind_36 ?_
        refine lv_topi (fun v39 e40 => ?_)
        have b41 : iv 11 26 v39 := by rw [e40]; exact iv_add (iv_lit (lo := 11) (hi := 11) 11 (by decide) (by decide)) b37 (by decide) (by decide) (by decide) (by decide)
        have l42 : v39.toInt = 11 + 3 * x1.toInt := (show v39.toInt = 11 + v35.toInt by rw [e40]; exact ti_cadd 11 (by decide) b37 (by decide) (by decide)).trans (by omega)
        refine lv_iconst (v := 1) E.1 E.2.1 dX11_kind_37 (by decide) ?_
        refine lv_iadd E.1 E.2.1 dX11_kind_38 ?_
        refine lv_topi (fun v43 e44 => ?_)
        have b45 : iv 12 27 v43 := by rw [e44]; exact iv_add b41 (iv_lit (lo := 1) (hi := 1) 1 (by decide) (by decide)) (by decide) (by decide) (by decide) (by decide)
        have l46 : v43.toInt = 12 + 3 * x1.toInt := (show v43.toInt = v39.toInt + 1 by rw [e44]; exact ti_addc 1 (by decide) b41 (by decide) (by decide)).trans (by omega)
        refine lv_bipush (v := 8) E.1 E.2.1 dX11_kind_39 (by decide) ?_
        refine lv_iload_n E.1 E.2.1 dX11_kind_41 rfl (lv_at hl 2 rfl) ?_
        refine lv_iload_n E.1 E.2.1 dX11_kind_42 rfl (lv_at hl 3 rfl) ?_
        refine t_vi E G hl (v_bestFor l D K ad z o v43 (iv_mono b45 (by decide) (by decide)) (8 : Int32) (iv_mono (iv_lit (lo := 8) (hi := 8) 8 (by decide) (by decide)) (by decide) (by decide)) x2 (iv_mono b22 (by decide) (by decide)) x3 wf) 11 (rfl : ro 386 = 11) (by decide) rfl rfl 4 rfl mw_code_X11_bestFor mw_ini_11 mw_ml_11_402 mw_inst_X11_bestFor mw_sel_X11_bestFor hd_X11_bestFor ⟨Nat.le_trans (by decide) hfr, Nat.le_trans (by decide) hlo⟩ rfl rfl rfl (Nat.le_of_ble_eq_true rfl) dX11_kind_43 (fun r48 zz47 H locs hp49 G => ?_)
        obtain ⟨oo50, kk51⟩ := hp49
        have kk52 : KM z zz47 := KF.tr KF.rf kk51
        refine lv_goto (tgt := 50) E.1 E.2.1 dX11_kind_46 (by decide) ?_
        exact RET G ⟨oo50, kk52⟩ rfl dX11_kind_50
set_option maxHeartbeats 4000000 in
set_option maxRecDepth 100000 in
theorem v_rests (l : Launch) (D : va_G) (K : Nat → ClassId) (ad : Nat → Nat) (z : TS) (o : Ok z) (x1 : Int32) (x2 : Int32) (x3 : Int32) (x4 : Int32) (wf : WFc z) : cI l yX11_rests cX11_rests 9 .int ({ frames := 9, cells := 0, slots := 0, locals := 216 }) D K ad z [.ref (ad 386), .int x1, .int x2, .int x3, .int x4] (fun r u => Ok u ∧ KM z u) := by
  refine t_enterI (by decide) (Nat.le_of_ble_eq_true rfl) rfl rfl ?_
  intro p e s m args below meth c A R Q H locs ls E hfr hlo RET G hl
  have E : mE p s m meth c cX11_rests args 9 RX11 D K A := E
  have hl : lv_has ls 9 [(0, .ref (ad 386)), (1, .int x1), (2, .int x2), (3, .int x3), (4, .int x4)] := hl
  refine lv_aload_n E.1 E.2.1 dX11_rests_0 rfl (lv_at hl 0 rfl) ?_
  refine lv_iload_n E.1 E.2.1 dX11_rests_1 rfl (lv_at hl 1 rfl) ?_
  refine t_vi E G hl (v_isLaid l D K ad z o x1) 11 (rfl : ro 386 = 11) (by decide) rfl rfl 1 rfl mw_code_X11_isLaid mw_ini_11 mw_ml_11_288 mw_inst_X11_isLaid mw_sel_X11_isLaid hd_X11_isLaid ⟨Nat.le_trans (by decide) hfr, Nat.le_trans (by decide) hlo⟩ rfl rfl rfl (Nat.le_of_ble_eq_true rfl) dX11_rests_2 (fun r2 zz1 H locs hp3 G => ?_)
  obtain ⟨hz6, b4, h5⟩ := hp3
  rw [hz6] at G
  refine lv_if_eq (tgt := 46) E.1 E.2.1 dX11_rests_5 (by decide) (fun c7 => ?_) (fun c7 => ?_)
  · skip
    have b8 : iv 0 0 r2 := iv_eq c7 (iv_lit (lo := 0) (hi := 0) 0 (by decide) (by decide))
    refine lv_iconst (v := (-1)) E.1 E.2.1 dX11_rests_46 (by decide) ?_
    exact RET G ⟨o, KF.rf⟩ rfl dX11_rests_47
  · skip
    have b9 : iv 1 1 r2 := ne_lo c7 b4 (by decide) (by decide)
    have b10 : iv 0 5 x1 := h5 c7
    refine lv_aload_n E.1 E.2.1 dX11_rests_8 rfl (lv_at hl 0 rfl) ?_
    refine lv_iload_n E.1 E.2.1 dX11_rests_9 rfl (lv_at hl 2 rfl) ?_
    refine t_vi E G hl (v_isLaid l D K ad z o x2) 11 (rfl : ro 386 = 11) (by decide) rfl rfl 1 rfl mw_code_X11_isLaid mw_ini_11 mw_ml_11_288 mw_inst_X11_isLaid mw_sel_X11_isLaid hd_X11_isLaid ⟨Nat.le_trans (by decide) hfr, Nat.le_trans (by decide) hlo⟩ rfl rfl rfl (Nat.le_of_ble_eq_true rfl) dX11_rests_10 (fun r12 zz11 H locs hp13 G => ?_)
    obtain ⟨hz16, b14, h15⟩ := hp13
    rw [hz16] at G
    refine lv_if_eq (tgt := 46) E.1 E.2.1 dX11_rests_13 (by decide) (fun c17 => ?_) (fun c17 => ?_)
    · skip
      have b18 : iv 0 0 r12 := iv_eq c17 (iv_lit (lo := 0) (hi := 0) 0 (by decide) (by decide))
      refine lv_iconst (v := (-1)) E.1 E.2.1 dX11_rests_46 (by decide) ?_
      exact RET G ⟨o, KF.rf⟩ rfl dX11_rests_47
    · skip
      have b19 : iv 1 1 r12 := ne_lo c17 b14 (by decide) (by decide)
      have b20 : iv 0 5 x2 := h15 c17
      refine lv_iload_n E.1 E.2.1 dX11_rests_16 rfl (lv_at hl 1 rfl) ?_
      refine lv_iload_n E.1 E.2.1 dX11_rests_17 rfl (lv_at hl 2 rfl) ?_
      refine lv_icmp_eq (tgt := 46) E.1 E.2.1 dX11_rests_18 (by decide) (fun c21 => ?_) (fun c21 => ?_)
      · skip
        refine lv_iconst (v := (-1)) E.1 E.2.1 dX11_rests_46 (by decide) ?_
        exact RET G ⟨o, KF.rf⟩ rfl dX11_rests_47
      · skip
        refine lv_iload_n E.1 E.2.1 dX11_rests_21 rfl (lv_at hl 3 rfl) ?_
        refine lv_i2l E.1 E.2.1 dX11_rests_22 rfl ?_
        refine lv_topl (fun v22 e23 => ?_)
        refine lv_lconst (v := 1) E.1 E.2.1 dX11_rests_23 (by decide) ?_
        refine lv_ldc2 (v := 20) E.1 E.2.1 E.2.2.2.1 (E.2.2.2.2.1 _ mw_cL_11_415) dX11_rests_24 ?_
        refine t_si E G hl (v_in l D K ad z o v22 1 20) 3 rfl mw_code_X11_in mw_ini_11 mw_ml_11_121 mw_stat_X11_in hd_X11_in ⟨Nat.le_trans (by decide) hfr, Nat.le_trans (by decide) hlo⟩ rfl rfl rfl (Nat.le_of_ble_eq_true rfl) dX11_rests_27 (fun r25 zz24 H locs hp26 G => ?_)
        obtain ⟨hz29, b27, h28⟩ := hp26
        rw [hz29] at G
        refine lv_if_eq (tgt := 46) E.1 E.2.1 dX11_rests_30 (by decide) (fun c30 => ?_) (fun c30 => ?_)
        · skip
          have b31 : iv 0 0 r25 := iv_eq c30 (iv_lit (lo := 0) (hi := 0) 0 (by decide) (by decide))
          refine lv_iconst (v := (-1)) E.1 E.2.1 dX11_rests_46 (by decide) ?_
          exact RET G ⟨o, KF.rf⟩ rfl dX11_rests_47
        · skip
          have b32 : iv 1 1 r25 := ne_lo c30 b27 (by decide) (by decide)
          have b33 : iv 1 20 x3 := (fun q => in_iv e23 (h28 q) (by decide) (by decide)) c30
          refine lv_iload E.1 E.2.1 dX11_rests_33 (lv_at hl 4 rfl) ?_
          refine lv_i2l E.1 E.2.1 dX11_rests_35 rfl ?_
          refine lv_topl (fun v34 e35 => ?_)
          refine lv_lconst (v := 0) E.1 E.2.1 dX11_rests_36 (by decide) ?_
          refine lv_ldc2 (v := 2) E.1 E.2.1 E.2.2.2.1 (E.2.2.2.2.1 _ mw_cL_11_371) dX11_rests_37 ?_
          refine t_si E G hl (v_in l D K ad z o v34 0 2) 3 rfl mw_code_X11_in mw_ini_11 mw_ml_11_121 mw_stat_X11_in hd_X11_in ⟨Nat.le_trans (by decide) hfr, Nat.le_trans (by decide) hlo⟩ rfl rfl rfl (Nat.le_of_ble_eq_true rfl) dX11_rests_40 (fun r37 zz36 H locs hp38 G => ?_)
          obtain ⟨hz41, b39, h40⟩ := hp38
          rw [hz41] at G
          refine lv_if_ne (tgt := 48) E.1 E.2.1 dX11_rests_43 (by decide) (fun c42 => ?_) (fun c42 => ?_)
          · skip
            have b43 : iv 1 1 r37 := ne_lo c42 b39 (by decide) (by decide)
            have b44 : iv 0 2 x4 := (fun q => in_iv e35 (h40 q) (by decide) (by decide)) c42
            refine lv_aload_n E.1 E.2.1 dX11_rests_48 rfl (lv_at hl 0 rfl) ?_
            refine t_vv E G hl (v_keeps l D K ad z o) 11 (rfl : ro 386 = 11) (by decide) rfl rfl 0 rfl mw_code_X11_keeps mw_ini_11 mw_ml_11_373 mw_inst_X11_keeps mw_sel_X11_keeps hd_X11_keeps ⟨Nat.le_trans (by decide) hfr, Nat.le_trans (by decide) hlo⟩ rfl rfl rfl (Nat.le_of_ble_eq_true rfl) dX11_rests_49 (fun zz45 H locs hp47 G => ?_)
            obtain ⟨oo48, kk49⟩ := hp47
            have kk50 : KM z zz45 := KF.tr KF.rf kk49
            refine lv_iconst (v := 0) E.1 E.2.1 dX11_rests_52 (by decide) ?_
            refine lv_istore (lv' := [(5, .int 0), (0, .ref (ad 386)), (1, .int x1), (2, .int x2), (3, .int x3), (4, .int x4)]) E.1 E.2.1 dX11_rests_53 hl (by decide) rfl (fun ls hl => ?_)
            have LOOP55 : ∀ n : Nat, ∀ (zz52 : TS) (y51 : Int32) (H : Heap) (locs : List Loc) (ls : Array Slot), mG D A s H locs (wd K ad zz52) → Ok zz52 → KM z zz52 → iv 0 8 y51 → 8 < y51.toInt + (n : Int) → lv_has ls 9 [(5, .int y51), (0, .ref (ad 386)), (1, .int x1), (2, .int x2), (3, .int x3), (4, .int x4)] → W p l e R s m args below meth c H locs 0 0 Q (F0 m 55 ls []) := by
              intro n
              induction n with
              | zero =>
                intro zz52 y51 H locs ls G oo53 kk54 b56 m55 hl
                exact absurd m55 (by have := b56.1; have := b56.2; omega)
              | succ n ih55 =>
                intro zz52 y51 H locs ls G oo53 kk54 b56 m55 hl
                refine lv_iload E.1 E.2.1 dX11_rests_55 (lv_at hl 0 rfl) ?_
                refine lv_aload_n E.1 E.2.1 dX11_rests_57 rfl (lv_at hl 1 rfl) ?_
                refine t_get E G 11 20 (rfl : ro 386 = 11) (C := RX11) (T := TX11) (N := 37) rfl (by decide) (by decide) (by decide) mw_fl_11_39 (v := .ref (ad 396)) (fvl_o (n := 10) rfl) dX11_rests_58 ?_
                refine lv_iconst (v := 1) E.1 E.2.1 dX11_rests_61 (by decide) ?_
                refine t_iald E G 54 (rfl : ro 396 = 54) (by decide) (by decide) rfl (n := 127) rfl (by unfold vp_in; decide) dX11_rests_62 ?_
                refine lv_topi (fun v57 e58 => ?_)
                have b59 : iv 0 8 v57 := by rw [e58]; exact iv_mono (oo53.a 54 (rfl : ro 396 = 54) _) (by decide +kernel) (by decide +kernel)
                refine lv_icmp_ge (tgt := 103) E.1 E.2.1 dX11_rests_63 (by decide) (fun c60 => ?_) (fun c60 => ?_)
                · skip
                  refine lv_iconst (v := 0) E.1 E.2.1 dX11_rests_103 (by decide) ?_
                  refine lv_istore (lv' := [(5, .int 0), (0, .ref (ad 386)), (1, .int x1), (2, .int x2), (3, .int x3), (4, .int x4)]) E.1 E.2.1 dX11_rests_104 hl (by decide) rfl (fun ls hl => ?_)
                  refine lv_iconst (v := (-1)) E.1 E.2.1 dX11_rests_106 (by decide) ?_
                  refine lv_istore (lv' := [(6, .int (-1)), (5, .int 0), (0, .ref (ad 386)), (1, .int x1), (2, .int x2), (3, .int x3), (4, .int x4)]) E.1 E.2.1 dX11_rests_107 hl (by decide) rfl (fun ls hl => ?_)
                  refine lv_aload_n E.1 E.2.1 dX11_rests_109 rfl (lv_at hl 2 rfl) ?_
                  refine t_get E G 11 20 (rfl : ro 386 = 11) (C := RX11) (T := TX11) (N := 37) rfl (by decide) (by decide) (by decide) mw_fl_11_39 (v := .ref (ad 396)) (fvl_o (n := 10) rfl) dX11_rests_110 ?_
                  refine lv_iconst (v := 1) E.1 E.2.1 dX11_rests_113 (by decide) ?_
                  refine t_iald E G 54 (rfl : ro 396 = 54) (by decide) (by decide) rfl (n := 127) rfl (by unfold vp_in; decide) dX11_rests_114 ?_
                  refine m_ci v57 e58.symm ?_
                  refine lv_iconst (v := 1) E.1 E.2.1 dX11_rests_115 (by decide) ?_
                  refine lv_isub E.1 E.2.1 dX11_rests_116 ?_
                  refine lv_topi (fun v61 e62 => ?_)
                  have b63 : iv (-1) 7 v61 := by rw [e62]; exact iv_sub b59 (iv_lit (lo := 1) (hi := 1) 1 (by decide) (by decide)) (by decide) (by decide) (by decide) (by decide)
                  have l64 : v61.toInt = (-1) + 1 * v57.toInt := (show v61.toInt = v57.toInt - 1 by rw [e62]; exact ti_subc 1 (by decide) b59 (by decide) (by decide)).trans (by omega)
                  refine lv_istore (lv' := [(7, .int v61), (6, .int (-1)), (5, .int 0), (0, .ref (ad 386)), (1, .int x1), (2, .int x2), (3, .int x3), (4, .int x4)]) E.1 E.2.1 dX11_rests_117 hl (by decide) rfl (fun ls hl => ?_)
                  have LOOP119 : ∀ n : Nat, ∀ (y65 : Int32) (y66 : Int32) (y67 : Int32) (H : Heap) (locs : List Loc) (ls : Array Slot), mG D A s H locs (wd K ad zz52) → iv (-1) 7 y65 → iv (-1) 63 y66 → y65.toInt < (-1) + (n : Int) → lv_has ls 9 [(7, .int y65), (6, .int y66), (5, .int y67), (0, .ref (ad 386)), (1, .int x1), (2, .int x2), (3, .int x3), (4, .int x4)] → W p l e R s m args below meth c H locs 0 0 Q (F0 m 119 ls []) := by
                    intro n
                    induction n with
                    | zero =>
                      intro y65 y66 y67 H locs ls G b72 b73 m71 hl
                      exact absurd m71 (by have := b72.1; have := b72.2; omega)
                    | succ n ih119 =>
                      intro y65 y66 y67 H locs ls G b72 b73 m71 hl
                      refine lv_iload E.1 E.2.1 dX11_rests_119 (lv_at hl 0 rfl) ?_
                      refine lv_if_lt (tgt := 178) E.1 E.2.1 dX11_rests_121 (by decide) (fun c74 => ?_) (fun c74 => ?_)
                      · skip
                        have b75 : iv (-1) (-1) y65 := lt_l c74 b72 (iv_lit (lo := 0) (hi := 0) 0 (by decide) (by decide)) (by decide)
                        refine lv_iload E.1 E.2.1 dX11_rests_178 (lv_at hl 7 rfl) ?_
                        refine lv_if_ne (tgt := 186) E.1 E.2.1 dX11_rests_180 (by decide) (fun c76 => ?_) (fun c76 => ?_)
                        · skip
                          have b77 : iv 1 2 x4 := ne_lo c76 b44 (by decide) (by decide)
                          refine lv_iload E.1 E.2.1 dX11_rests_186 (lv_at hl 1 rfl) ?_
                          refine lv_if_ge (tgt := 196) E.1 E.2.1 dX11_rests_188 (by decide) (fun c78 => ?_) (fun c78 => ?_)
                          · skip
                            have b79 : iv 0 63 y66 := le_r c78 (iv_lit (lo := 0) (hi := 0) 0 (by decide) (by decide)) b73 (by decide)
                            refine lv_iload E.1 E.2.1 dX11_rests_196 (lv_at hl 7 rfl) ?_
                            refine lv_iconst (v := 1) E.1 E.2.1 dX11_rests_198 (by decide) ?_
                            refine lv_icmp_ne (tgt := 210) E.1 E.2.1 dX11_rests_199 (by decide) (fun c80 => ?_) (fun c80 => ?_)
                            · skip
                              have b81 : iv 2 2 x4 := ne_lo c80 b77 (by decide) (by decide)
                              refine lv_iload E.1 E.2.1 dX11_rests_210 (lv_at hl 1 rfl) ?_
                              refine lv_bipush (v := 8) E.1 E.2.1 dX11_rests_212 (by decide) ?_
                              refine lv_irem E.1 E.2.1 dX11_rests_214 (by decide) ?_
                              refine lv_topi (fun v82 e83 => ?_)
                              have b84 : iv 0 7 v82 := by rw [e83]; exact iv_rem b79 8 (by decide) (by decide) (by decide)
                              exact RET G ⟨oo53, kk54⟩ rfl dX11_rests_215
                            · skip
                              have b85 : iv 1 1 x4 := iv_eq c80 (iv_lit (lo := 1) (hi := 1) 1 (by decide) (by decide))
                              refine lv_iload E.1 E.2.1 dX11_rests_202 (lv_at hl 1 rfl) ?_
                              refine lv_bipush (v := 8) E.1 E.2.1 dX11_rests_204 (by decide) ?_
                              refine lv_idiv E.1 E.2.1 dX11_rests_206 (by decide) ?_
                              refine lv_topi (fun v86 e87 => ?_)
                              have b88 : iv 0 7 v86 := by rw [e87]; exact iv_div b79 8 (by decide) (by decide) (by decide) (by decide) (by decide)
                              refine lv_goto (tgt := 215) E.1 E.2.1 dX11_rests_207 (by decide) ?_
                              exact RET G ⟨oo53, kk54⟩ rfl dX11_rests_215
                          · skip
                            have b89 : iv (-1) (-1) y66 := lt_l (Int32.not_le.mp c78) b73 (iv_lit (lo := 0) (hi := 0) 0 (by decide) (by decide)) (by decide)
                            refine lv_bipush (v := (-2)) E.1 E.2.1 dX11_rests_191 (by decide) ?_
                            refine lv_goto (tgt := 215) E.1 E.2.1 dX11_rests_193 (by decide) ?_
                            exact RET G ⟨oo53, kk54⟩ rfl dX11_rests_215
                        · skip
                          have b90 : iv 0 0 x4 := iv_eq c76 (iv_lit (lo := 0) (hi := 0) 0 (by decide) (by decide))
                          refine lv_iload E.1 E.2.1 dX11_rests_183 (lv_at hl 2 rfl) ?_
                          exact RET G ⟨oo53, kk54⟩ rfl dX11_rests_185
                      · skip
                        have b91 : iv 0 7 y65 := le_r (Int32.not_lt.mp c74) (iv_lit (lo := 0) (hi := 0) 0 (by decide) (by decide)) b72 (by decide)
                        refine lv_aload_n E.1 E.2.1 dX11_rests_124 rfl (lv_at hl 3 rfl) ?_
                        refine t_get E G 11 20 (rfl : ro 386 = 11) (C := RX11) (T := TX11) (N := 37) rfl (by decide) (by decide) (by decide) mw_fl_11_39 (v := .ref (ad 396)) (fvl_o (n := 10) rfl) dX11_rests_125 ?_
                        refine lv_iconst (v := 1) E.1 E.2.1 dX11_rests_128 (by decide) ?_
                        refine t_iald E G 54 (rfl : ro 396 = 54) (by decide) (by decide) rfl (n := 127) rfl (by unfold vp_in; decide) dX11_rests_129 ?_
                        refine m_ci v57 e58.symm ?_
                        refine lv_iconst (v := 1) E.1 E.2.1 dX11_rests_130 (by decide) ?_
                        refine lv_isub E.1 E.2.1 dX11_rests_131 ?_
                        refine lv_topi (fun v92 e93 => ?_)
                        have b94 : iv (-1) 7 v92 := by rw [e93]; exact iv_sub b59 (iv_lit (lo := 1) (hi := 1) 1 (by decide) (by decide)) (by decide) (by decide) (by decide) (by decide)
                        have l95 : v92.toInt = (-1) + 1 * v57.toInt := (show v92.toInt = v57.toInt - 1 by rw [e93]; exact ti_subc 1 (by decide) b59 (by decide) (by decide)).trans (by omega)
                        refine lv_istore (lv' := [(8, .int v92), (7, .int y65), (6, .int y66), (5, .int y67), (0, .ref (ad 386)), (1, .int x1), (2, .int x2), (3, .int x3), (4, .int x4)]) E.1 E.2.1 dX11_rests_132 hl (by decide) rfl (fun ls hl => ?_)
                        have LOOP134 : ∀ n : Nat, ∀ (y96 : Int32) (y97 : Int32) (y98 : Int32) (H : Heap) (locs : List Loc) (ls : Array Slot), mG D A s H locs (wd K ad zz52) → iv (-1) 7 y96 → iv (-1) 63 y97 → y96.toInt < (-1) + (n : Int) → lv_has ls 9 [(8, .int y96), (7, .int y65), (6, .int y97), (5, .int y98), (0, .ref (ad 386)), (1, .int x1), (2, .int x2), (3, .int x3), (4, .int x4)] → W p l e R s m args below meth c H locs 0 0 Q (F0 m 134 ls []) := by
                          intro n
                          induction n with
                          | zero =>
                            intro y96 y97 y98 H locs ls G b103 b104 m102 hl
                            exact absurd m102 (by have := b103.1; have := b103.2; omega)
                          | succ n ih134 =>
                            intro y96 y97 y98 H locs ls G b103 b104 m102 hl
                            refine lv_iload E.1 E.2.1 dX11_rests_134 (lv_at hl 0 rfl) ?_
                            refine lv_if_lt (tgt := 172) E.1 E.2.1 dX11_rests_136 (by decide) (fun c105 => ?_) (fun c105 => ?_)
                            · skip
                              have b106 : iv (-1) (-1) y96 := lt_l c105 b103 (iv_lit (lo := 0) (hi := 0) 0 (by decide) (by decide)) (by decide)
                              obtain ⟨v107, e108⟩ : ∃ w : Int32, w = y65 + (-1 : Int32) := ⟨_, rfl⟩
                              refine lv_iinc (v := v107) (lv' := [(7, .int v107), (8, .int y96), (6, .int y97), (5, .int y98), (0, .ref (ad 386)), (1, .int x1), (2, .int x2), (3, .int x3), (4, .int x4)]) E.1 E.2.1 dX11_rests_172 hl (k := 1) rfl (by rw [e108]; rfl) (by decide) rfl (fun ls hl => ?_)
                              have b109 : iv (-1) 6 v107 := by rw [e108]; exact iv_add b91 (iv_lit (lo := (-1)) (hi := (-1)) (-1) (by decide) (by decide)) (by decide) (by decide) (by decide) (by decide)
                              have t110 : v107.toInt = y65.toInt + (-1) := by rw [e108]; exact ti_addc (-1) (by decide) b91 (by decide) (by decide)
                              refine lv_goto (tgt := 119) E.1 E.2.1 dX11_rests_175 (by decide) ?_
                              exact ih119 v107 y97 y98 H locs ls G (iv_mono b109 (by decide) (by decide)) (iv_mono b104 (by decide) (by decide)) (by have := t110; have := m71; omega) (lv_sub hl [0, 2, 3, 4, 5, 6, 7, 8] rfl)
                            · skip
                              have b111 : iv 0 7 y96 := le_r (Int32.not_lt.mp c105) (iv_lit (lo := 0) (hi := 0) 0 (by decide) (by decide)) b103 (by decide)
                              refine lv_aload_n E.1 E.2.1 dX11_rests_139 rfl (lv_at hl 4 rfl) ?_
                              refine lv_iload E.1 E.2.1 dX11_rests_140 (lv_at hl 1 rfl) ?_
                              refine lv_iload E.1 E.2.1 dX11_rests_142 (lv_at hl 0 rfl) ?_
                              refine t_vi E G hl (v_isRest l D K ad zz52 oo53 y65 (iv_mono b91 (by decide) (by decide)) y96 (iv_mono b111 (by decide) (by decide))) 11 (rfl : ro 386 = 11) (by decide) rfl rfl 2 rfl mw_code_X11_isRest mw_ini_11 mw_ml_11_421 mw_inst_X11_isRest mw_sel_X11_isRest hd_X11_isRest ⟨Nat.le_trans (by decide) hfr, Nat.le_trans (by decide) hlo⟩ rfl rfl rfl (Nat.le_of_ble_eq_true rfl) dX11_rests_144 (fun r113 zz112 H locs hp114 G => ?_)
                              obtain ⟨hz116, b115⟩ := hp114
                              rw [hz116] at G
                              refine lv_if_ne (tgt := 153) E.1 E.2.1 dX11_rests_147 (by decide) (fun c117 => ?_) (fun c117 => ?_)
                              · skip
                                have b118 : iv 1 1 r113 := ne_lo c117 b115 (by decide) (by decide)
                                refine lv_bipush (v := 8) E.1 E.2.1 dX11_rests_153 (by decide) ?_
                                refine lv_iload E.1 E.2.1 dX11_rests_155 (lv_at hl 1 rfl) ?_
                                refine lv_imul E.1 E.2.1 dX11_rests_157 ?_
                                refine lv_topi (fun v119 e120 => ?_)
                                have b121 : iv 0 56 v119 := by rw [e120]; exact iv_mulc' b91 8 (by decide) (by decide) (by decide) (by decide) (by decide) (by decide)
                                have l122 : v119.toInt = 0 + 8 * y65.toInt := (show v119.toInt = 8 * y65.toInt by rw [e120]; exact ti_cmul 8 (by decide) (by decide) b91 (by decide) (by decide)).trans (by omega)
                                refine lv_iload E.1 E.2.1 dX11_rests_158 (lv_at hl 0 rfl) ?_
                                refine lv_iadd E.1 E.2.1 dX11_rests_160 ?_
                                refine lv_topi (fun v123 e124 => ?_)
                                have b125 : iv 0 63 v123 := by rw [e124]; exact iv_add b121 b111 (by decide) (by decide) (by decide) (by decide)
                                have l126 : v123.toInt = 0 + 8 * y65.toInt + 1 * y96.toInt := (show v123.toInt = v119.toInt + y96.toInt by rw [e124]; exact ti_addv b121 b111 (by decide) (by decide)).trans (by omega)
                                refine lv_istore (lv' := [(6, .int v123), (8, .int y96), (7, .int y65), (5, .int y98), (0, .ref (ad 386)), (1, .int x1), (2, .int x2), (3, .int x3), (4, .int x4)]) E.1 E.2.1 dX11_rests_161 hl (by decide) rfl (fun ls hl => ?_)
                                obtain ⟨v127, e128⟩ : ∃ w : Int32, w = y98 + (1 : Int32) := ⟨_, rfl⟩
                                refine lv_iinc (v := v127) (lv' := [(5, .int v127), (6, .int v123), (8, .int y96), (7, .int y65), (0, .ref (ad 386)), (1, .int x1), (2, .int x2), (3, .int x3), (4, .int x4)]) E.1 E.2.1 dX11_rests_163 hl (k := 3) rfl (by rw [e128]; rfl) (by decide) rfl (fun ls hl => ?_)
                                obtain ⟨v129, e130⟩ : ∃ w : Int32, w = y96 + (-1 : Int32) := ⟨_, rfl⟩
                                refine lv_iinc (v := v129) (lv' := [(8, .int v129), (5, .int v127), (6, .int v123), (7, .int y65), (0, .ref (ad 386)), (1, .int x1), (2, .int x2), (3, .int x3), (4, .int x4)]) E.1 E.2.1 dX11_rests_166 hl (k := 2) rfl (by rw [e130]; rfl) (by decide) rfl (fun ls hl => ?_)
                                have b131 : iv (-1) 6 v129 := by rw [e130]; exact iv_add b111 (iv_lit (lo := (-1)) (hi := (-1)) (-1) (by decide) (by decide)) (by decide) (by decide) (by decide) (by decide)
                                have t132 : v129.toInt = y96.toInt + (-1) := by rw [e130]; exact ti_addc (-1) (by decide) b111 (by decide) (by decide)
                                refine lv_goto (tgt := 134) E.1 E.2.1 dX11_rests_169 (by decide) ?_
                                exact ih134 v129 v123 v127 H locs ls G (iv_mono b131 (by decide) (by decide)) (iv_mono b125 (by decide) (by decide)) (by have := t132; have := m102; omega) (lv_sub hl [0, 3, 2, 1, 4, 5, 6, 7, 8] rfl)
                              · skip
                                have b133 : iv 0 0 r113 := iv_eq c117 (iv_lit (lo := 0) (hi := 0) 0 (by decide) (by decide))
                                refine lv_goto (tgt := 166) E.1 E.2.1 dX11_rests_150 (by decide) ?_
                                obtain ⟨v134, e135⟩ : ∃ w : Int32, w = y96 + (-1 : Int32) := ⟨_, rfl⟩
                                refine lv_iinc (v := v134) (lv' := [(8, .int v134), (7, .int y65), (6, .int y97), (5, .int y98), (0, .ref (ad 386)), (1, .int x1), (2, .int x2), (3, .int x3), (4, .int x4)]) E.1 E.2.1 dX11_rests_166 hl (k := 0) rfl (by rw [e135]; rfl) (by decide) rfl (fun ls hl => ?_)
                                have b136 : iv (-1) 6 v134 := by rw [e135]; exact iv_add b111 (iv_lit (lo := (-1)) (hi := (-1)) (-1) (by decide) (by decide)) (by decide) (by decide) (by decide) (by decide)
                                have t137 : v134.toInt = y96.toInt + (-1) := by rw [e135]; exact ti_addc (-1) (by decide) b111 (by decide) (by decide)
                                refine lv_goto (tgt := 134) E.1 E.2.1 dX11_rests_169 (by decide) ?_
                                exact ih134 v134 y97 y98 H locs ls G (iv_mono b136 (by decide) (by decide)) (iv_mono b104 (by decide) (by decide)) (by have := t137; have := m102; omega) (lv_sub hl [0, 1, 2, 3, 4, 5, 6, 7, 8] rfl)
                        exact LOOP134 9 v92 y66 y67 H locs ls G (iv_mono b94 (by decide) (by decide)) (iv_mono b73 (by decide) (by decide)) (by have := b94.2; omega) (lv_sub hl [0, 1, 2, 3, 4, 5, 6, 7, 8] rfl)
                  exact LOOP119 9 v61 (-1) 0 H locs ls G (iv_mono b63 (by decide) (by decide)) (iv_mono (iv_lit (lo := (-1)) (hi := (-1)) (-1) (by decide) (by decide)) (by decide) (by decide)) (by have := b63.2; omega) (lv_sub hl [0, 1, 2, 3, 4, 5, 6, 7] rfl)
                · skip
                  have b138 : iv 0 7 y51 := lt_l (Int32.not_le.mp c60) b56 b59 (by decide)
                  have b139 : iv 1 8 v57 := lt_r (Int32.not_le.mp c60) b56 b59 (by decide)
                  refine lv_iconst (v := 0) E.1 E.2.1 dX11_rests_66 (by decide) ?_
                  refine lv_istore (lv' := [(6, .int 0), (5, .int y51), (0, .ref (ad 386)), (1, .int x1), (2, .int x2), (3, .int x3), (4, .int x4)]) E.1 E.2.1 dX11_rests_67 hl (by decide) rfl (fun ls hl => ?_)
                  have LOOP69 : ∀ n : Nat, ∀ (zz141 : TS) (y140 : Int32) (H : Heap) (locs : List Loc) (ls : Array Slot), mG D A s H locs (wd K ad zz141) → Ok zz141 → KM z zz141 → iv 0 8 y140 → 8 < y140.toInt + (n : Int) → lv_has ls 9 [(6, .int y140), (5, .int y51), (0, .ref (ad 386)), (1, .int x1), (2, .int x2), (3, .int x3), (4, .int x4)] → W p l e R s m args below meth c H locs 0 0 Q (F0 m 69 ls []) := by
                    intro n
                    induction n with
                    | zero =>
                      intro zz141 y140 H locs ls G oo142 kk143 b145 m144 hl
                      exact absurd m144 (by have := b145.1; have := b145.2; omega)
                    | succ n ih69 =>
                      intro zz141 y140 H locs ls G oo142 kk143 b145 m144 hl
                      refine lv_iload E.1 E.2.1 dX11_rests_69 (lv_at hl 0 rfl) ?_
                      refine lv_aload_n E.1 E.2.1 dX11_rests_71 rfl (lv_at hl 2 rfl) ?_
                      refine t_get E G 11 20 (rfl : ro 386 = 11) (C := RX11) (T := TX11) (N := 37) rfl (by decide) (by decide) (by decide) mw_fl_11_39 (v := .ref (ad 396)) (fvl_o (n := 10) rfl) dX11_rests_72 ?_
                      refine lv_iconst (v := 1) E.1 E.2.1 dX11_rests_75 (by decide) ?_
                      refine t_iald E G 54 (rfl : ro 396 = 54) (by decide) (by decide) rfl (n := 127) rfl (by unfold vp_in; decide) dX11_rests_76 ?_
                      refine lv_topi (fun v146 e147 => ?_)
                      have b148 : iv 0 8 v146 := by rw [e147]; exact iv_mono (oo142.a 54 (rfl : ro 396 = 54) _) (by decide +kernel) (by decide +kernel)
                      refine lv_icmp_ge (tgt := 97) E.1 E.2.1 dX11_rests_77 (by decide) (fun c149 => ?_) (fun c149 => ?_)
                      · skip
                        obtain ⟨v150, e151⟩ : ∃ w : Int32, w = y51 + (1 : Int32) := ⟨_, rfl⟩
                        refine lv_iinc (v := v150) (lv' := [(5, .int v150), (6, .int y140), (0, .ref (ad 386)), (1, .int x1), (2, .int x2), (3, .int x3), (4, .int x4)]) E.1 E.2.1 dX11_rests_97 hl (k := 1) rfl (by rw [e151]; rfl) (by decide) rfl (fun ls hl => ?_)
                        have b152 : iv 1 8 v150 := by rw [e151]; exact iv_add b138 (iv_lit (lo := 1) (hi := 1) 1 (by decide) (by decide)) (by decide) (by decide) (by decide) (by decide)
                        have t153 : v150.toInt = y51.toInt + 1 := by rw [e151]; exact ti_addc 1 (by decide) b138 (by decide) (by decide)
                        refine lv_goto (tgt := 55) E.1 E.2.1 dX11_rests_100 (by decide) ?_
                        exact ih55 zz141 v150 H locs ls G oo142 kk143 (iv_mono b152 (by decide) (by decide)) (by have := t153; have := m55; omega) (lv_sub hl [0, 2, 3, 4, 5, 6] rfl)
                      · skip
                        have b154 : iv 0 7 y140 := lt_l (Int32.not_le.mp c149) b145 b148 (by decide)
                        have b155 : iv 1 8 v146 := lt_r (Int32.not_le.mp c149) b145 b148 (by decide)
                        refine lv_aload_n E.1 E.2.1 dX11_rests_80 rfl (lv_at hl 2 rfl) ?_
                        refine lv_iload_n E.1 E.2.1 dX11_rests_81 rfl (lv_at hl 3 rfl) ?_
                        refine lv_iload_n E.1 E.2.1 dX11_rests_82 rfl (lv_at hl 4 rfl) ?_
                        refine lv_iload E.1 E.2.1 dX11_rests_83 (lv_at hl 1 rfl) ?_
                        refine lv_iload E.1 E.2.1 dX11_rests_85 (lv_at hl 0 rfl) ?_
                        refine lv_iload_n E.1 E.2.1 dX11_rests_87 rfl (lv_at hl 5 rfl) ?_
                        refine t_vv E G hl (v_fillsRest l D K ad zz141 oo142 x1 (iv_mono b10 (by decide) (by decide)) x2 (iv_mono b20 (by decide) (by decide)) y51 (iv_mono b138 (by decide) (by decide)) y140 (iv_mono b154 (by decide) (by decide)) x3 (iv_mono b33 (by decide) (by decide)) (wf_ka wf kk143.2.1 rfl rfl rfl rfl)) 11 (rfl : ro 386 = 11) (by decide) rfl rfl 5 rfl mw_code_X11_fillsRest mw_ini_11 mw_ml_11_417 mw_inst_X11_fillsRest mw_sel_X11_fillsRest hd_X11_fillsRest ⟨Nat.le_trans (by decide) hfr, Nat.le_trans (by decide) hlo⟩ rfl rfl rfl (Nat.le_of_ble_eq_true rfl) dX11_rests_88 (fun zz156 H locs hp158 G => ?_)
                        obtain ⟨oo159, kk160⟩ := hp158
                        have kk161 : KM z zz156 := KF.tr kk143 kk160
                        obtain ⟨v162, e163⟩ : ∃ w : Int32, w = y140 + (1 : Int32) := ⟨_, rfl⟩
                        refine lv_iinc (v := v162) (lv' := [(6, .int v162), (5, .int y51), (0, .ref (ad 386)), (1, .int x1), (2, .int x2), (3, .int x3), (4, .int x4)]) E.1 E.2.1 dX11_rests_91 hl (k := 0) rfl (by rw [e163]; rfl) (by decide) rfl (fun ls hl => ?_)
                        have b164 : iv 1 8 v162 := by rw [e163]; exact iv_add b154 (iv_lit (lo := 1) (hi := 1) 1 (by decide) (by decide)) (by decide) (by decide) (by decide) (by decide)
                        have t165 : v162.toInt = y140.toInt + 1 := by rw [e163]; exact ti_addc 1 (by decide) b154 (by decide) (by decide)
                        refine lv_goto (tgt := 69) E.1 E.2.1 dX11_rests_94 (by decide) ?_
                        exact ih69 zz156 v162 H locs ls G oo159 kk161 (iv_mono b164 (by decide) (by decide)) (by have := t165; have := m144; omega) (lv_sub hl [0, 1, 2, 3, 4, 5, 6] rfl)
                  exact LOOP69 9 zz52 0 H locs ls G oo53 kk54 (iv_mono (iv_lit (lo := 0) (hi := 0) 0 (by decide) (by decide)) (by decide) (by decide)) (by have := (iv_lit (lo := 0) (hi := 0) 0 (by decide) (by decide)).1; omega) (lv_sub hl [0, 1, 2, 3, 4, 5, 6] rfl)
            exact LOOP55 9 zz45 0 H locs ls G oo48 kk50 (iv_mono (iv_lit (lo := 0) (hi := 0) 0 (by decide) (by decide)) (by decide) (by decide)) (by have := (iv_lit (lo := 0) (hi := 0) 0 (by decide) (by decide)).1; omega) (lv_sub hl [0, 1, 2, 3, 4, 5] rfl)
          · skip
            have b166 : iv 0 0 r37 := iv_eq c42 (iv_lit (lo := 0) (hi := 0) 0 (by decide) (by decide))
            refine lv_iconst (v := (-1)) E.1 E.2.1 dX11_rests_46 (by decide) ?_
            exact RET G ⟨o, KF.rf⟩ rfl dX11_rests_47
set_option maxHeartbeats 4000000 in
set_option maxRecDepth 100000 in
theorem v_ring (l : Launch) (D : va_G) (K : Nat → ClassId) (ad : Nat → Nat) (z : TS) (o : Ok z) (x1 : Int32) (wf : WFc z) : cI l yX11_ring cX11_ring 4 .int ({ frames := 7, cells := 0, slots := 0, locals := 168 }) D K ad z [.ref (ad 386), .int x1] (fun r u => Ok u ∧ KM z u) := by
  refine t_enterI (by decide) (Nat.le_of_ble_eq_true rfl) rfl rfl ?_
  intro p e s m args below meth c A R Q H locs ls E hfr hlo RET G hl
  have E : mE p s m meth c cX11_ring args 4 RX11 D K A := E
  have hl : lv_has ls 4 [(0, .ref (ad 386)), (1, .int x1)] := hl
  refine lv_aload_n E.1 E.2.1 dX11_ring_0 rfl (lv_at hl 0 rfl) ?_
  refine t_vi E G hl (v_isTown l D K ad z o) 11 (rfl : ro 386 = 11) (by decide) rfl rfl 0 rfl mw_code_X11_isTown mw_ini_11 mw_ml_11_359 mw_inst_X11_isTown mw_sel_X11_isTown hd_X11_isTown ⟨Nat.le_trans (by decide) hfr, Nat.le_trans (by decide) hlo⟩ rfl rfl rfl (Nat.le_of_ble_eq_true rfl) dX11_ring_1 (fun r2 zz1 H locs hp3 G => ?_)
  obtain ⟨hz5, b4⟩ := hp3
  rw [hz5] at G
  refine lv_if_eq (tgt := 17) E.1 E.2.1 dX11_ring_4 (by decide) (fun c6 => ?_) (fun c6 => ?_)
  · skip
    have b7 : iv 0 0 r2 := iv_eq c6 (iv_lit (lo := 0) (hi := 0) 0 (by decide) (by decide))
    refine lv_iconst (v := (-1)) E.1 E.2.1 dX11_ring_17 (by decide) ?_
    exact RET G ⟨o, KF.rf⟩ rfl dX11_ring_18
  · skip
    have b8 : iv 1 1 r2 := ne_lo c6 b4 (by decide) (by decide)
    refine lv_iload_n E.1 E.2.1 dX11_ring_7 rfl (lv_at hl 1 rfl) ?_
    refine lv_i2l E.1 E.2.1 dX11_ring_8 rfl ?_
    refine lv_topl (fun v9 e10 => ?_)
    refine lv_lconst (v := 0) E.1 E.2.1 dX11_ring_9 (by decide) ?_
    refine lv_lconst (v := 1) E.1 E.2.1 dX11_ring_10 (by decide) ?_
    refine t_si E G hl (v_in l D K ad z o v9 0 1) 3 rfl mw_code_X11_in mw_ini_11 mw_ml_11_121 mw_stat_X11_in hd_X11_in ⟨Nat.le_trans (by decide) hfr, Nat.le_trans (by decide) hlo⟩ rfl rfl rfl (Nat.le_of_ble_eq_true rfl) dX11_ring_11 (fun r12 zz11 H locs hp13 G => ?_)
    obtain ⟨hz16, b14, h15⟩ := hp13
    rw [hz16] at G
    refine lv_if_ne (tgt := 19) E.1 E.2.1 dX11_ring_14 (by decide) (fun c17 => ?_) (fun c17 => ?_)
    · skip
      have b18 : iv 1 1 r12 := ne_lo c17 b14 (by decide) (by decide)
      have b19 : iv 0 1 x1 := (fun q => in_iv e10 (h15 q) (by decide) (by decide)) c17
      refine lv_aload_n E.1 E.2.1 dX11_ring_19 rfl (lv_at hl 0 rfl) ?_
      refine t_vv E G hl (v_keeps l D K ad z o) 11 (rfl : ro 386 = 11) (by decide) rfl rfl 0 rfl mw_code_X11_keeps mw_ini_11 mw_ml_11_373 mw_inst_X11_keeps mw_sel_X11_keeps hd_X11_keeps ⟨Nat.le_trans (by decide) hfr, Nat.le_trans (by decide) hlo⟩ rfl rfl rfl (Nat.le_of_ble_eq_true rfl) dX11_ring_20 (fun zz20 H locs hp22 G => ?_)
      obtain ⟨oo23, kk24⟩ := hp22
      have kk25 : KM z zz20 := KF.tr KF.rf kk24
      refine lv_iconst (v := 0) E.1 E.2.1 dX11_ring_23 (by decide) ?_
      refine lv_istore_n (lv' := [(2, .int 0), (0, .ref (ad 386)), (1, .int x1)]) E.1 E.2.1 dX11_ring_24 rfl hl (by decide) rfl (fun ls hl => ?_)
      have LOOP25 : ∀ n : Nat, ∀ (zz27 : TS) (y26 : Int32) (H : Heap) (locs : List Loc) (ls : Array Slot), mG D A s H locs (wd K ad zz27) → Ok zz27 → KM z zz27 → iv 0 61 y26 → 61 < y26.toInt + (n : Int) → lv_has ls 4 [(2, .int y26), (0, .ref (ad 386)), (1, .int x1)] → W p l e R s m args below meth c H locs 0 0 Q (F0 m 25 ls []) := by
        intro n
        induction n with
        | zero =>
          intro zz27 y26 H locs ls G oo28 kk29 b31 m30 hl
          exact absurd m30 (by have := b31.1; have := b31.2; omega)
        | succ n ih25 =>
          intro zz27 y26 H locs ls G oo28 kk29 b31 m30 hl
          refine lv_iload_n E.1 E.2.1 dX11_ring_25 rfl (lv_at hl 0 rfl) ?_
          refine lv_bipush (v := 60) E.1 E.2.1 dX11_ring_26 (by decide) ?_
          refine lv_icmp_gt (tgt := 86) E.1 E.2.1 dX11_ring_28 (by decide) (fun c32 => ?_) (fun c32 => ?_)
          · skip
            have b33 : iv 61 61 y26 := lt_r c32 (iv_lit (lo := 60) (hi := 60) 60 (by decide) (by decide)) b31 (by decide)
            refine lv_aload_n E.1 E.2.1 dX11_ring_86 rfl (lv_at hl 1 rfl) ?_
            refine t_vv E G hl (v_laysBack l D K ad zz27 oo28) 11 (rfl : ro 386 = 11) (by decide) rfl rfl 0 rfl mw_code_X11_laysBack mw_ini_11 mw_ml_11_382 mw_inst_X11_laysBack mw_sel_X11_laysBack hd_X11_laysBack ⟨Nat.le_trans (by decide) hfr, Nat.le_trans (by decide) hlo⟩ rfl rfl rfl (Nat.le_of_ble_eq_true rfl) dX11_ring_87 (fun zz34 H locs hp36 G => ?_)
            obtain ⟨oo37, kk38⟩ := hp36
            have kk39 : KM z zz34 := KF.tr kk29 kk38
            refine lv_iconst (v := 0) E.1 E.2.1 dX11_ring_90 (by decide) ?_
            refine lv_istore_n (lv' := [(2, .int 0), (0, .ref (ad 386)), (1, .int x1)]) E.1 E.2.1 dX11_ring_91 rfl hl (by decide) rfl (fun ls hl => ?_)
            have LOOP92 : ∀ n : Nat, ∀ (y40 : Int32) (H : Heap) (locs : List Loc) (ls : Array Slot), mG D A s H locs (wd K ad zz34) → iv 0 60 y40 → 60 < y40.toInt + (n : Int) → lv_has ls 4 [(2, .int y40), (0, .ref (ad 386)), (1, .int x1)] → W p l e R s m args below meth c H locs 0 0 Q (F0 m 92 ls []) := by
              intro n
              induction n with
              | zero =>
                intro y40 H locs ls G b45 m44 hl
                exact absurd m44 (by have := b45.1; have := b45.2; omega)
              | succ n ih92 =>
                intro y40 H locs ls G b45 m44 hl
                refine lv_iload_n E.1 E.2.1 dX11_ring_92 rfl (lv_at hl 0 rfl) ?_
                refine lv_bipush (v := 60) E.1 E.2.1 dX11_ring_93 (by decide) ?_
                refine lv_icmp_ge (tgt := 149) E.1 E.2.1 dX11_ring_95 (by decide) (fun c46 => ?_) (fun c46 => ?_)
                · skip
                  have b47 : iv 60 60 y40 := le_r c46 (iv_lit (lo := 60) (hi := 60) 60 (by decide) (by decide)) b45 (by decide)
                  refine lv_bipush (v := (-2)) E.1 E.2.1 dX11_ring_149 (by decide) ?_
                  exact RET G ⟨oo37, kk39⟩ rfl dX11_ring_151
                · skip
                  have b48 : iv 0 59 y40 := lt_l (Int32.not_le.mp c46) b45 (iv_lit (lo := 60) (hi := 60) 60 (by decide) (by decide)) (by decide)
                  refine lv_iload_n E.1 E.2.1 dX11_ring_98 rfl (lv_at hl 0 rfl) ?_
                  refine lv_iconst (v := 1) E.1 E.2.1 dX11_ring_99 (by decide) ?_
                  refine lv_iadd E.1 E.2.1 dX11_ring_100 ?_
                  refine lv_topi (fun v49 e50 => ?_)
                  have b51 : iv 1 60 v49 := by rw [e50]; exact iv_add b48 (iv_lit (lo := 1) (hi := 1) 1 (by decide) (by decide)) (by decide) (by decide) (by decide) (by decide)
                  have l52 : v49.toInt = 1 + 1 * y40.toInt := (show v49.toInt = y40.toInt + 1 by rw [e50]; exact ti_addc 1 (by decide) b48 (by decide) (by decide)).trans (by omega)
                  refine lv_istore_n (lv' := [(3, .int v49), (2, .int y40), (0, .ref (ad 386)), (1, .int x1)]) E.1 E.2.1 dX11_ring_101 rfl hl (by decide) rfl (fun ls hl => ?_)
                  have LOOP102 : ∀ n : Nat, ∀ (y53 : Int32) (H : Heap) (locs : List Loc) (ls : Array Slot), mG D A s H locs (wd K ad zz34) → iv 0 61 y53 → 61 < y53.toInt + (n : Int) → lv_has ls 4 [(3, .int y53), (2, .int y40), (0, .ref (ad 386)), (1, .int x1)] → W p l e R s m args below meth c H locs 0 0 Q (F0 m 102 ls []) := by
                    intro n
                    induction n with
                    | zero =>
                      intro y53 H locs ls G b58 m57 hl
                      exact absurd m57 (by have := b58.1; have := b58.2; omega)
                    | succ n ih102 =>
                      intro y53 H locs ls G b58 m57 hl
                      refine lv_iload_n E.1 E.2.1 dX11_ring_102 rfl (lv_at hl 0 rfl) ?_
                      refine lv_bipush (v := 60) E.1 E.2.1 dX11_ring_103 (by decide) ?_
                      refine lv_icmp_gt (tgt := 143) E.1 E.2.1 dX11_ring_105 (by decide) (fun c59 => ?_) (fun c59 => ?_)
                      · skip
                        have b60 : iv 61 61 y53 := lt_r c59 (iv_lit (lo := 60) (hi := 60) 60 (by decide) (by decide)) b58 (by decide)
                        obtain ⟨v61, e62⟩ : ∃ w : Int32, w = y40 + (1 : Int32) := ⟨_, rfl⟩
                        refine lv_iinc (v := v61) (lv' := [(2, .int v61), (3, .int y53), (0, .ref (ad 386)), (1, .int x1)]) E.1 E.2.1 dX11_ring_143 hl (k := 1) rfl (by rw [e62]; rfl) (by decide) rfl (fun ls hl => ?_)
                        have b63 : iv 1 60 v61 := by rw [e62]; exact iv_add b48 (iv_lit (lo := 1) (hi := 1) 1 (by decide) (by decide)) (by decide) (by decide) (by decide) (by decide)
                        have t64 : v61.toInt = y40.toInt + 1 := by rw [e62]; exact ti_addc 1 (by decide) b48 (by decide) (by decide)
                        refine lv_goto (tgt := 92) E.1 E.2.1 dX11_ring_146 (by decide) ?_
                        exact ih92 v61 H locs ls G (iv_mono b63 (by decide) (by decide)) (by have := t64; have := m44; omega) (lv_sub hl [0, 2, 3] rfl)
                      · skip
                        have b65 : iv 0 60 y53 := le_l (Int32.not_lt.mp c59) b58 (iv_lit (lo := 60) (hi := 60) 60 (by decide) (by decide)) (by decide)
                        refine lv_aload_n E.1 E.2.1 dX11_ring_108 rfl (lv_at hl 2 rfl) ?_
                        refine lv_iload_n E.1 E.2.1 dX11_ring_109 rfl (lv_at hl 1 rfl) ?_
                        refine lv_iload_n E.1 E.2.1 dX11_ring_110 rfl (lv_at hl 0 rfl) ?_
                        refine t_vi E G hl (v_areAlike l D K ad zz34 oo37 y40 (iv_mono b48 (by decide) (by decide)) y53 (iv_mono b65 (by decide) (by decide))) 11 (rfl : ro 386 = 11) (by decide) rfl rfl 2 rfl mw_code_X11_areAlike mw_ini_11 mw_ml_11_424 mw_inst_X11_areAlike mw_sel_X11_areAlike hd_X11_areAlike ⟨Nat.le_trans (by decide) hfr, Nat.le_trans (by decide) hlo⟩ rfl rfl rfl (Nat.le_of_ble_eq_true rfl) dX11_ring_111 (fun r67 zz66 H locs hp68 G => ?_)
                        obtain ⟨hz70, b69⟩ := hp68
                        rw [hz70] at G
                        refine lv_if_eq (tgt := 137) E.1 E.2.1 dX11_ring_114 (by decide) (fun c71 => ?_) (fun c71 => ?_)
                        · skip
                          have b72 : iv 0 0 r67 := iv_eq c71 (iv_lit (lo := 0) (hi := 0) 0 (by decide) (by decide))
                          obtain ⟨v73, e74⟩ : ∃ w : Int32, w = y53 + (1 : Int32) := ⟨_, rfl⟩
                          refine lv_iinc (v := v73) (lv' := [(3, .int v73), (2, .int y40), (0, .ref (ad 386)), (1, .int x1)]) E.1 E.2.1 dX11_ring_137 hl (k := 0) rfl (by rw [e74]; rfl) (by decide) rfl (fun ls hl => ?_)
                          have b75 : iv 1 61 v73 := by rw [e74]; exact iv_add b65 (iv_lit (lo := 1) (hi := 1) 1 (by decide) (by decide)) (by decide) (by decide) (by decide) (by decide)
                          have t76 : v73.toInt = y53.toInt + 1 := by rw [e74]; exact ti_addc 1 (by decide) b65 (by decide) (by decide)
                          refine lv_goto (tgt := 102) E.1 E.2.1 dX11_ring_140 (by decide) ?_
                          exact ih102 v73 H locs ls G (iv_mono b75 (by decide) (by decide)) (by have := t76; have := m57; omega) (lv_sub hl [0, 1, 2, 3] rfl)
                        · skip
                          have b77 : iv 1 1 r67 := ne_lo c71 b69 (by decide) (by decide)
                          refine lv_iload_n E.1 E.2.1 dX11_ring_117 rfl (lv_at hl 3 rfl) ?_
                          refine lv_if_ne (tgt := 133) E.1 E.2.1 dX11_ring_118 (by decide) (fun c78 => ?_) (fun c78 => ?_)
                          · skip
                            have b79 : iv 1 1 x1 := ne_lo c78 b19 (by decide) (by decide)
                            refine lv_iload_n E.1 E.2.1 dX11_ring_133 rfl (lv_at hl 0 rfl) ?_
                            refine lv_iload_n E.1 E.2.1 dX11_ring_134 rfl (lv_at hl 1 rfl) ?_
                            refine lv_isub E.1 E.2.1 dX11_ring_135 ?_
                            refine lv_topi (fun v80 e81 => ?_)
                            have b82 : iv (-59) 60 v80 := by rw [e81]; exact iv_sub b65 b48 (by decide) (by decide) (by decide) (by decide)
                            have l83 : v80.toInt = 0 + 1 * y53.toInt + (-1) * y40.toInt := (show v80.toInt = y53.toInt - y40.toInt by rw [e81]; exact ti_subv b65 b48 (by decide) (by decide)).trans (by omega)
                            exact RET G ⟨oo37, kk39⟩ rfl dX11_ring_136
                          · skip
                            have b84 : iv 0 0 x1 := iv_eq c78 (iv_lit (lo := 0) (hi := 0) 0 (by decide) (by decide))
                            refine lv_aload_n E.1 E.2.1 dX11_ring_121 rfl (lv_at hl 2 rfl) ?_
                            refine t_get E G 11 20 (rfl : ro 386 = 11) (C := RX11) (T := TX11) (N := 37) rfl (by decide) (by decide) (by decide) mw_fl_11_39 (v := .ref (ad 396)) (fvl_o (n := 10) rfl) dX11_ring_122 ?_
                            refine lv_bipush (v := 10) E.1 E.2.1 dX11_ring_125 (by decide) ?_
                            refine t_iald E G 54 (rfl : ro 396 = 54) (by decide) (by decide) rfl (n := 127) rfl (by unfold vp_in; decide) dX11_ring_127 ?_
                            refine lv_topi (fun v85 e86 => ?_)
                            refine lv_iload_n E.1 E.2.1 dX11_ring_128 rfl (lv_at hl 1 rfl) ?_
                            refine lv_iadd E.1 E.2.1 dX11_ring_129 ?_
                            refine lv_topi (fun v87 e88 => ?_)
                            refine lv_goto (tgt := 136) E.1 E.2.1 dX11_ring_130 (by decide) ?_
                            exact RET G ⟨oo37, kk39⟩ rfl dX11_ring_136
                  exact LOOP102 62 v49 H locs ls G (iv_mono b51 (by decide) (by decide)) (by have := b51.1; omega) (lv_sub hl [0, 1, 2, 3] rfl)
            exact LOOP92 61 0 H locs ls G (iv_mono (iv_lit (lo := 0) (hi := 0) 0 (by decide) (by decide)) (by decide) (by decide)) (by have := (iv_lit (lo := 0) (hi := 0) 0 (by decide) (by decide)).1; omega) (lv_sub hl [0, 1, 2] rfl)
          · skip
            have b89 : iv 0 60 y26 := le_l (Int32.not_lt.mp c32) b31 (iv_lit (lo := 60) (hi := 60) 60 (by decide) (by decide)) (by decide)
            refine lv_iconst (v := 0) E.1 E.2.1 dX11_ring_31 (by decide) ?_
            refine lv_istore_n (lv' := [(3, .int 0), (2, .int y26), (0, .ref (ad 386)), (1, .int x1)]) E.1 E.2.1 dX11_ring_32 rfl hl (by decide) rfl (fun ls hl => ?_)
            have LOOP33 : ∀ n : Nat, ∀ (zz91 : TS) (y90 : Int32) (H : Heap) (locs : List Loc) (ls : Array Slot), mG D A s H locs (wd K ad zz91) → Ok zz91 → KM z zz91 → iv 0 5 y90 → 5 < y90.toInt + (n : Int) → lv_has ls 4 [(3, .int y90), (2, .int y26), (0, .ref (ad 386)), (1, .int x1)] → W p l e R s m args below meth c H locs 0 0 Q (F0 m 33 ls []) := by
              intro n
              induction n with
              | zero =>
                intro zz91 y90 H locs ls G oo92 kk93 b95 m94 hl
                exact absurd m94 (by have := b95.1; have := b95.2; omega)
              | succ n ih33 =>
                intro zz91 y90 H locs ls G oo92 kk93 b95 m94 hl
                refine lv_iload_n E.1 E.2.1 dX11_ring_33 rfl (lv_at hl 0 rfl) ?_
                refine lv_iconst (v := 5) E.1 E.2.1 dX11_ring_34 (by decide) ?_
                refine lv_icmp_ge (tgt := 60) E.1 E.2.1 dX11_ring_35 (by decide) (fun c96 => ?_) (fun c96 => ?_)
                · skip
                  have b97 : iv 5 5 y90 := le_r c96 (iv_lit (lo := 5) (hi := 5) 5 (by decide) (by decide)) b95 (by decide)
                  refine lv_aload_n E.1 E.2.1 dX11_ring_60 rfl (lv_at hl 2 rfl) ?_
                  refine t_get E G 11 29 (rfl : ro 386 = 11) (C := RX11) (T := TX11) (N := 37) rfl (by decide) (by decide) (by decide) mw_fl_11_61 (v := .ref (ad 402)) (fvl_o (n := 16) rfl) dX11_ring_61 ?_
                  refine lv_bipush (v := 6) E.1 E.2.1 dX11_ring_64 (by decide) ?_
                  refine lv_iload_n E.1 E.2.1 dX11_ring_66 rfl (lv_at hl 1 rfl) ?_
                  refine lv_imul E.1 E.2.1 dX11_ring_67 ?_
                  refine lv_topi (fun v98 e99 => ?_)
                  have b100 : iv 0 360 v98 := by rw [e99]; exact iv_mulc' b89 6 (by decide) (by decide) (by decide) (by decide) (by decide) (by decide)
                  have l101 : v98.toInt = 0 + 6 * y26.toInt := (show v98.toInt = 6 * y26.toInt by rw [e99]; exact ti_cmul 6 (by decide) (by decide) b89 (by decide) (by decide)).trans (by omega)
                  refine lv_iconst (v := 5) E.1 E.2.1 dX11_ring_68 (by decide) ?_
                  refine lv_iadd E.1 E.2.1 dX11_ring_69 ?_
                  refine lv_topi (fun v102 e103 => ?_)
                  have b104 : iv 5 365 v102 := by rw [e103]; exact iv_add b100 (iv_lit (lo := 5) (hi := 5) 5 (by decide) (by decide)) (by decide) (by decide) (by decide) (by decide)
                  have l105 : v102.toInt = 5 + 6 * y26.toInt := (show v102.toInt = v98.toInt + 5 by rw [e103]; exact ti_addc 5 (by decide) b100 (by decide) (by decide)).trans (by omega)
                  refine lv_aload_n E.1 E.2.1 dX11_ring_70 rfl (lv_at hl 2 rfl) ?_
                  refine t_vi E G hl (v_laidOnes l D K ad zz91 oo92) 11 (rfl : ro 386 = 11) (by decide) rfl rfl 0 rfl mw_code_X11_laidOnes mw_ini_11 mw_ml_11_379 mw_inst_X11_laidOnes mw_sel_X11_laidOnes hd_X11_laidOnes ⟨Nat.le_trans (by decide) hfr, Nat.le_trans (by decide) hlo⟩ rfl rfl rfl (Nat.le_of_ble_eq_true rfl) dX11_ring_71 (fun r107 zz106 H locs hp108 G => ?_)
                  have hz109 := hp108
                  rw [hz109] at G
                  refine t_iast E G 60 (rfl : ro 402 = 60) (by decide) (by decide) rfl (n := 366) rfl (iv_vp b104 (by decide) (by decide)) dX11_ring_74 (fun H locs G => ?_)
                  obtain ⟨zz110, G, oo111, kk112⟩ : ∃ u : TS, mG D A s H locs (wd K ad u) ∧ Ok u ∧ KM z u := ⟨_, G, ok_u oo92 60 (rfl : ro 402 = 60) (wr_u (by decide) (iv_mono (iv_full r107) (by decide) (by decide))) (by decide), KF.tr kk93 (KF_r 60 (rfl : ro 402 = 60) (by decide))⟩
                  refine lv_aload_n E.1 E.2.1 dX11_ring_75 rfl (lv_at hl 2 rfl) ?_
                  refine t_vi E G hl (v_passes l D K ad zz110 oo111 (wf_ka wf kk112.2.1 rfl rfl rfl rfl)) 11 (rfl : ro 386 = 11) (by decide) rfl rfl 0 rfl mw_code_X11_passes mw_ini_11 mw_ml_11_356 mw_inst_X11_passes mw_sel_X11_passes hd_X11_passes ⟨Nat.le_trans (by decide) hfr, Nat.le_trans (by decide) hlo⟩ rfl rfl rfl (Nat.le_of_ble_eq_true rfl) dX11_ring_76 (fun r114 zz113 H locs hp115 G => ?_)
                  obtain ⟨oo116, kk117⟩ := hp115
                  have kk118 : KM z zz113 := KF.tr kk112 kk117
                  refine lv_pop E.1 E.2.1 dX11_ring_79 rfl ?_
                  obtain ⟨v119, e120⟩ : ∃ w : Int32, w = y26 + (1 : Int32) := ⟨_, rfl⟩
                  refine lv_iinc (v := v119) (lv' := [(2, .int v119), (3, .int y90), (0, .ref (ad 386)), (1, .int x1)]) E.1 E.2.1 dX11_ring_80 hl (k := 1) rfl (by rw [e120]; rfl) (by decide) rfl (fun ls hl => ?_)
                  have b121 : iv 1 61 v119 := by rw [e120]; exact iv_add b89 (iv_lit (lo := 1) (hi := 1) 1 (by decide) (by decide)) (by decide) (by decide) (by decide) (by decide)
                  have t122 : v119.toInt = y26.toInt + 1 := by rw [e120]; exact ti_addc 1 (by decide) b89 (by decide) (by decide)
                  refine lv_goto (tgt := 25) E.1 E.2.1 dX11_ring_83 (by decide) ?_
                  exact ih25 zz113 v119 H locs ls G oo116 kk118 (iv_mono b121 (by decide) (by decide)) (by have := t122; have := m30; omega) (lv_sub hl [0, 2, 3] rfl)
                · skip
                  have b123 : iv 0 4 y90 := lt_l (Int32.not_le.mp c96) b95 (iv_lit (lo := 5) (hi := 5) 5 (by decide) (by decide)) (by decide)
                  refine lv_aload_n E.1 E.2.1 dX11_ring_38 rfl (lv_at hl 2 rfl) ?_
                  refine t_get E G 11 29 (rfl : ro 386 = 11) (C := RX11) (T := TX11) (N := 37) rfl (by decide) (by decide) (by decide) mw_fl_11_61 (v := .ref (ad 402)) (fvl_o (n := 16) rfl) dX11_ring_39 ?_
                  refine lv_bipush (v := 6) E.1 E.2.1 dX11_ring_42 (by decide) ?_
                  refine lv_iload_n E.1 E.2.1 dX11_ring_44 rfl (lv_at hl 1 rfl) ?_
                  refine lv_imul E.1 E.2.1 dX11_ring_45 ?_
                  refine lv_topi (fun v124 e125 => ?_)
                  have b126 : iv 0 360 v124 := by rw [e125]; exact iv_mulc' b89 6 (by decide) (by decide) (by decide) (by decide) (by decide) (by decide)
                  have l127 : v124.toInt = 0 + 6 * y26.toInt := (show v124.toInt = 6 * y26.toInt by rw [e125]; exact ti_cmul 6 (by decide) (by decide) b89 (by decide) (by decide)).trans (by omega)
                  refine lv_iload_n E.1 E.2.1 dX11_ring_46 rfl (lv_at hl 0 rfl) ?_
                  refine lv_iadd E.1 E.2.1 dX11_ring_47 ?_
                  refine lv_topi (fun v128 e129 => ?_)
                  have b130 : iv 0 364 v128 := by rw [e129]; exact iv_add b126 b123 (by decide) (by decide) (by decide) (by decide)
                  have l131 : v128.toInt = 0 + 6 * y26.toInt + 1 * y90.toInt := (show v128.toInt = v124.toInt + y90.toInt by rw [e129]; exact ti_addv b126 b123 (by decide) (by decide)).trans (by omega)
                  refine lv_aload_n E.1 E.2.1 dX11_ring_48 rfl (lv_at hl 2 rfl) ?_
                  refine lv_iload_n E.1 E.2.1 dX11_ring_49 rfl (lv_at hl 0 rfl) ?_
                  refine t_vi E G hl (v_cornerOf l D K ad zz91 oo92 y90 (iv_mono b123 (by decide) (by decide))) 11 (rfl : ro 386 = 11) (by decide) rfl rfl 1 rfl mw_code_X11_cornerOf mw_ini_11 mw_ml_11_291 mw_inst_X11_cornerOf mw_sel_X11_cornerOf hd_X11_cornerOf ⟨Nat.le_trans (by decide) hfr, Nat.le_trans (by decide) hlo⟩ rfl rfl rfl (Nat.le_of_ble_eq_true rfl) dX11_ring_50 (fun r133 zz132 H locs hp134 G => ?_)
                  obtain ⟨hz136, b135⟩ := hp134
                  rw [hz136] at G
                  refine t_iast E G 60 (rfl : ro 402 = 60) (by decide) (by decide) rfl (n := 366) rfl (iv_vp b130 (by decide) (by decide)) dX11_ring_53 (fun H locs G => ?_)
                  obtain ⟨zz137, G, oo138, kk139⟩ : ∃ u : TS, mG D A s H locs (wd K ad u) ∧ Ok u ∧ KM z u := ⟨_, G, ok_u oo92 60 (rfl : ro 402 = 60) (wr_u (by decide) (iv_mono b135 (by decide) (by decide))) (by decide), KF.tr kk93 (KF_r 60 (rfl : ro 402 = 60) (by decide))⟩
                  obtain ⟨v140, e141⟩ : ∃ w : Int32, w = y90 + (1 : Int32) := ⟨_, rfl⟩
                  refine lv_iinc (v := v140) (lv' := [(3, .int v140), (2, .int y26), (0, .ref (ad 386)), (1, .int x1)]) E.1 E.2.1 dX11_ring_54 hl (k := 0) rfl (by rw [e141]; rfl) (by decide) rfl (fun ls hl => ?_)
                  have b142 : iv 1 5 v140 := by rw [e141]; exact iv_add b123 (iv_lit (lo := 1) (hi := 1) 1 (by decide) (by decide)) (by decide) (by decide) (by decide) (by decide)
                  have t143 : v140.toInt = y90.toInt + 1 := by rw [e141]; exact ti_addc 1 (by decide) b123 (by decide) (by decide)
                  refine lv_goto (tgt := 33) E.1 E.2.1 dX11_ring_57 (by decide) ?_
                  exact ih33 zz137 v140 H locs ls G oo138 kk139 (iv_mono b142 (by decide) (by decide)) (by have := t143; have := m94; omega) (lv_sub hl [0, 1, 2, 3] rfl)
            exact LOOP33 6 zz27 0 H locs ls G oo28 kk29 (iv_mono (iv_lit (lo := 0) (hi := 0) 0 (by decide) (by decide)) (by decide) (by decide)) (by have := (iv_lit (lo := 0) (hi := 0) 0 (by decide) (by decide)).1; omega) (lv_sub hl [0, 1, 2, 3] rfl)
      exact LOOP25 62 zz20 0 H locs ls G oo23 kk25 (iv_mono (iv_lit (lo := 0) (hi := 0) 0 (by decide) (by decide)) (by decide) (by decide)) (by have := (iv_lit (lo := 0) (hi := 0) 0 (by decide) (by decide)).1; omega) (lv_sub hl [0, 1, 2] rfl)
    · skip
      have b144 : iv 0 0 r12 := iv_eq c17 (iv_lit (lo := 0) (hi := 0) 0 (by decide) (by decide))
      refine lv_iconst (v := (-1)) E.1 E.2.1 dX11_ring_17 (by decide) ?_
      exact RET G ⟨o, KF.rf⟩ rfl dX11_ring_18
