theorem mw_code_X4_beginTest : (Cond.code yX4_beginTest cX4_beginTest 1 none : Cond) ∈ cw := cw_of (List.mem_append_right _ (List.mem_append_right _ (List.mem_append_right _ (List.mem_append_left _ (List.mem_of_getElem? (i := 238) rfl))))) (by decide +kernel)
theorem mw_code_X4_closeClause : (Cond.code yX4_closeClause cX4_closeClause 1 none : Cond) ∈ cw := cw_of (List.mem_append_right _ (List.mem_append_right _ (List.mem_append_right _ (List.mem_append_right _ (List.mem_append_left _ (List.mem_of_getElem? (i := 6) rfl)))))) (by decide +kernel)
theorem mw_code_X5_closeBracket : (Cond.code yX5_closeBracket cX5_closeBracket 1 none : Cond) ∈ cw := cw_of (List.mem_append_right _ (List.mem_append_right _ (List.mem_append_right _ (List.mem_append_right _ (List.mem_append_left _ (List.mem_of_getElem? (i := 2) rfl)))))) (by decide +kernel)
theorem mw_code_X5_takeOperator : (Cond.code yX5_takeOperator cX5_takeOperator 3 none : Cond) ∈ cw := cw_of (List.mem_append_right _ (List.mem_append_right _ (List.mem_append_right _ (List.mem_append_left _ (List.mem_of_getElem? (i := 230) rfl))))) (by decide +kernel)
theorem mw_code_X5_takeValue : (Cond.code yX5_takeValue cX5_takeValue 2 none : Cond) ∈ cw := cw_of (List.mem_append_right _ (List.mem_append_right _ (List.mem_append_right _ (List.mem_append_left _ (List.mem_of_getElem? (i := 207) rfl))))) (by decide +kernel)
theorem mw_inst_X4_beginTest : (Cond.instanceMethod yX4_beginTest : Cond) ∈ cw := cw_of (List.mem_append_right _ (List.mem_append_right _ (List.mem_append_right _ (List.mem_append_left _ (List.mem_of_getElem? (i := 236) (by decide +kernel)))))) (by decide +kernel)
theorem mw_inst_X4_closeClause : (Cond.instanceMethod yX4_closeClause : Cond) ∈ cw := cw_of (List.mem_append_right _ (List.mem_append_right _ (List.mem_append_right _ (List.mem_append_right _ (List.mem_append_left _ (List.mem_of_getElem? (i := 4) (by decide +kernel))))))) (by decide +kernel)
theorem mw_inst_X5_closeBracket : (Cond.instanceMethod yX5_closeBracket : Cond) ∈ cw := cw_of (List.mem_append_right _ (List.mem_append_right _ (List.mem_append_right _ (List.mem_append_right _ (List.mem_append_left _ (List.mem_of_getElem? (i := 1) (by decide +kernel))))))) (by decide +kernel)
theorem mw_inst_X5_takeOperator : (Cond.instanceMethod yX5_takeOperator : Cond) ∈ cw := cw_of (List.mem_append_right _ (List.mem_append_right _ (List.mem_append_right _ (List.mem_append_left _ (List.mem_of_getElem? (i := 229) (by decide +kernel)))))) (by decide +kernel)
theorem mw_inst_X5_takeValue : (Cond.instanceMethod yX5_takeValue : Cond) ∈ cw := cw_of (List.mem_append_right _ (List.mem_append_right _ (List.mem_append_right _ (List.mem_append_left _ (List.mem_of_getElem? (i := 206) (by decide +kernel)))))) (by decide +kernel)
theorem mw_ml_5_101 : (Cond.methodLink RX5 101 yX5_takeOperator : Cond) ∈ cw := cw_of (List.mem_append_right _ (List.mem_append_right _ (List.mem_append_right _ (List.mem_append_left _ (List.mem_of_getElem? (i := 227) (by decide +kernel)))))) (by decide +kernel)
theorem mw_ml_5_108 : (Cond.methodLink RX5 108 yX4_beginTest : Cond) ∈ cw := cw_of (List.mem_append_right _ (List.mem_append_right _ (List.mem_append_right _ (List.mem_append_left _ (List.mem_of_getElem? (i := 235) (by decide +kernel)))))) (by decide +kernel)
theorem mw_ml_5_111 : (Cond.methodLink RX5 111 yX5_closeBracket : Cond) ∈ cw := cw_of (List.mem_append_right _ (List.mem_append_right _ (List.mem_append_right _ (List.mem_append_left _ (List.mem_of_getElem? (i := 239) (by decide +kernel)))))) (by decide +kernel)
theorem mw_ml_5_114 : (Cond.methodLink RX5 114 yX4_closeClause : Cond) ∈ cw := cw_of (List.mem_append_right _ (List.mem_append_right _ (List.mem_append_right _ (List.mem_append_right _ (List.mem_append_left _ (List.mem_of_getElem? (i := 3) (by decide +kernel))))))) (by decide +kernel)
theorem mw_ml_5_69 : (Cond.methodLink RX5 69 yX5_takeValue : Cond) ∈ cw := cw_of (List.mem_append_right _ (List.mem_append_right _ (List.mem_append_right _ (List.mem_append_left _ (List.mem_of_getElem? (i := 204) (by decide +kernel)))))) (by decide +kernel)
theorem mw_sel_X4_beginTest : (Cond.selects RX4 yX4_beginTest yX4_beginTest : Cond) ∈ cw := cw_of (List.mem_append_right _ (List.mem_append_right _ (List.mem_append_right _ (List.mem_append_left _ (List.mem_of_getElem? (i := 237) (by decide +kernel)))))) (by decide +kernel)
theorem mw_sel_X4_closeClause : (Cond.selects RX4 yX4_closeClause yX4_closeClause : Cond) ∈ cw := cw_of (List.mem_append_right _ (List.mem_append_right _ (List.mem_append_right _ (List.mem_append_right _ (List.mem_append_left _ (List.mem_of_getElem? (i := 5) (by decide +kernel))))))) (by decide +kernel)
theorem mw_sel_X5_closeBracket : (Cond.selects RX5 yX5_closeBracket yX5_closeBracket : Cond) ∈ cw := cw_of (List.mem_append_left _ (List.mem_of_getElem? (i := 21) (by decide +kernel))) (by decide +kernel)
theorem mw_sel_X5_takeOperator : (Cond.selects RX5 yX5_takeOperator yX5_takeOperator : Cond) ∈ cw := cw_of (List.mem_append_left _ (List.mem_of_getElem? (i := 19) (by decide +kernel))) (by decide +kernel)
theorem mw_sel_X5_takeValue : (Cond.selects RX5 yX5_takeValue yX5_takeValue : Cond) ∈ cw := cw_of (List.mem_append_left _ (List.mem_of_getElem? (i := 15) (by decide +kernel))) (by decide +kernel)
theorem dX5_takeFact_0 : decode cX5_takeFact 0 = .ok (.aload_n 0, 1) := by decide +kernel
theorem dX5_takeFact_1 : decode cX5_takeFact 1 = .ok (.getfield 12, 3) := by decide +kernel
theorem dX5_takeFact_4 : decode cX5_takeFact 4 = .ok (.getfield 75, 3) := by decide +kernel
theorem dX5_takeFact_7 : decode cX5_takeFact 7 = .ok (.bipush 15, 2) := by decide +kernel
theorem dX5_takeFact_9 : decode cX5_takeFact 9 = .ok (.if_icmp .eq 27, 3) := by decide +kernel
theorem dX5_takeFact_12 : decode cX5_takeFact 12 = .ok (.aload_n 0, 1) := by decide +kernel
theorem dX5_takeFact_13 : decode cX5_takeFact 13 = .ok (.getfield 12, 3) := by decide +kernel
theorem dX5_takeFact_16 : decode cX5_takeFact 16 = .ok (.getfield 75, 3) := by decide +kernel
theorem dX5_takeFact_19 : decode cX5_takeFact 19 = .ok (.bipush 21, 2) := by decide +kernel
theorem dX5_takeFact_21 : decode cX5_takeFact 21 = .ok (.if_icmp .eq 15, 3) := by decide +kernel
theorem dX5_takeFact_24 : decode cX5_takeFact 24 = .ok (.aload_n 0, 1) := by decide +kernel
theorem dX5_takeFact_25 : decode cX5_takeFact 25 = .ok (.iconst 1, 1) := by decide +kernel
theorem dX5_takeFact_26 : decode cX5_takeFact 26 = .ok (.putfield 38, 3) := by decide +kernel
theorem dX5_takeFact_29 : decode cX5_takeFact 29 = .ok (.aload_n 0, 1) := by decide +kernel
theorem dX5_takeFact_30 : decode cX5_takeFact 30 = .ok (.invokevirtual 69, 3) := by decide +kernel
theorem dX5_takeFact_33 : decode cX5_takeFact 33 = .ok (.goto 70, 3) := by decide +kernel
theorem dX5_takeFact_36 : decode cX5_takeFact 36 = .ok (.aload_n 0, 1) := by decide +kernel
theorem dX5_takeFact_37 : decode cX5_takeFact 37 = .ok (.getfield 26, 3) := by decide +kernel
theorem dX5_takeFact_40 : decode cX5_takeFact 40 = .ok (.bipush 10, 2) := by decide +kernel
theorem dX5_takeFact_42 : decode cX5_takeFact 42 = .ok (.if_icmp .lt 14, 3) := by decide +kernel
theorem dX5_takeFact_45 : decode cX5_takeFact 45 = .ok (.aload_n 0, 1) := by decide +kernel
theorem dX5_takeFact_46 : decode cX5_takeFact 46 = .ok (.getfield 12, 3) := by decide +kernel
theorem dX5_takeFact_49 : decode cX5_takeFact 49 = .ok (.iconst 2, 1) := by decide +kernel
theorem dX5_takeFact_50 : decode cX5_takeFact 50 = .ok (.invokevirtual 78, 3) := by decide +kernel
theorem dX5_takeFact_53 : decode cX5_takeFact 53 = .ok (.goto 50, 3) := by decide +kernel
theorem dX5_takeFact_56 : decode cX5_takeFact 56 = .ok (.aload_n 0, 1) := by decide +kernel
theorem dX5_takeFact_57 : decode cX5_takeFact 57 = .ok (.dup, 1) := by decide +kernel
theorem dX5_takeFact_58 : decode cX5_takeFact 58 = .ok (.getfield 26, 3) := by decide +kernel
theorem dX5_takeFact_61 : decode cX5_takeFact 61 = .ok (.iconst 1, 1) := by decide +kernel
theorem dX5_takeFact_62 : decode cX5_takeFact 62 = .ok (.iadd, 1) := by decide +kernel
theorem dX5_takeFact_63 : decode cX5_takeFact 63 = .ok (.putfield 26, 3) := by decide +kernel
theorem dX5_takeFact_66 : decode cX5_takeFact 66 = .ok (.aload_n 0, 1) := by decide +kernel
theorem dX5_takeFact_67 : decode cX5_takeFact 67 = .ok (.dup, 1) := by decide +kernel
theorem dX5_takeFact_68 : decode cX5_takeFact 68 = .ok (.getfield 29, 3) := by decide +kernel
theorem dX5_takeFact_71 : decode cX5_takeFact 71 = .ok (.aload_n 0, 1) := by decide +kernel
theorem dX5_takeFact_72 : decode cX5_takeFact 72 = .ok (.getfield 12, 3) := by decide +kernel
theorem dX5_takeFact_75 : decode cX5_takeFact 75 = .ok (.getfield 75, 3) := by decide +kernel
theorem dX5_takeFact_78 : decode cX5_takeFact 78 = .ok (.bipush 21, 2) := by decide +kernel
theorem dX5_takeFact_80 : decode cX5_takeFact 80 = .ok (.if_icmp .ne 7, 3) := by decide +kernel
theorem dX5_takeFact_83 : decode cX5_takeFact 83 = .ok (.iconst 1, 1) := by decide +kernel
theorem dX5_takeFact_84 : decode cX5_takeFact 84 = .ok (.goto 4, 3) := by decide +kernel
theorem dX5_takeFact_87 : decode cX5_takeFact 87 = .ok (.iconst 0, 1) := by decide +kernel
theorem dX5_takeFact_88 : decode cX5_takeFact 88 = .ok (.iadd, 1) := by decide +kernel
theorem dX5_takeFact_89 : decode cX5_takeFact 89 = .ok (.putfield 29, 3) := by decide +kernel
theorem dX5_takeFact_92 : decode cX5_takeFact 92 = .ok (.aload_n 0, 1) := by decide +kernel
theorem dX5_takeFact_93 : decode cX5_takeFact 93 = .ok (.aload_n 0, 1) := by decide +kernel
theorem dX5_takeFact_94 : decode cX5_takeFact 94 = .ok (.getfield 12, 3) := by decide +kernel
theorem dX5_takeFact_97 : decode cX5_takeFact 97 = .ok (.getfield 75, 3) := by decide +kernel
theorem dX5_takeFact_100 : decode cX5_takeFact 100 = .ok (.invokevirtual 85, 3) := by decide +kernel
theorem dX5_takeFact_103 : decode cX5_takeFact 103 = .ok (.return_, 1) := by decide +kernel
theorem dX5_takeMore_0 : decode cX5_takeMore 0 = .ok (.aload_n 0, 1) := by decide +kernel
theorem dX5_takeMore_1 : decode cX5_takeMore 1 = .ok (.getfield 12, 3) := by decide +kernel
theorem dX5_takeMore_4 : decode cX5_takeMore 4 = .ok (.getfield 75, 3) := by decide +kernel
theorem dX5_takeMore_7 : decode cX5_takeMore 7 = .ok (.istore_n 1, 1) := by decide +kernel
theorem dX5_takeMore_8 : decode cX5_takeMore 8 = .ok (.iload_n 1, 1) := by decide +kernel
theorem dX5_takeMore_9 : decode cX5_takeMore 9 = .ok (.invokestatic 97, 3) := by decide +kernel
theorem dX5_takeMore_12 : decode cX5_takeMore 12 = .ok (.istore_n 2, 1) := by decide +kernel
theorem dX5_takeMore_13 : decode cX5_takeMore 13 = .ok (.iload_n 2, 1) := by decide +kernel
theorem dX5_takeMore_14 : decode cX5_takeMore 14 = .ok (.iconst 5, 1) := by decide +kernel
theorem dX5_takeMore_15 : decode cX5_takeMore 15 = .ok (.if_icmp .lt 20, 3) := by decide +kernel
theorem dX5_takeMore_18 : decode cX5_takeMore 18 = .ok (.aload_n 0, 1) := by decide +kernel
theorem dX5_takeMore_19 : decode cX5_takeMore 19 = .ok (.getfield 38, 3) := by decide +kernel
theorem dX5_takeMore_22 : decode cX5_takeMore 22 = .ok (.iconst 3, 1) := by decide +kernel
theorem dX5_takeMore_23 : decode cX5_takeMore 23 = .ok (.if_icmp .eq 12, 3) := by decide +kernel
theorem dX5_takeMore_26 : decode cX5_takeMore 26 = .ok (.aload_n 0, 1) := by decide +kernel
theorem dX5_takeMore_27 : decode cX5_takeMore 27 = .ok (.iload_n 2, 1) := by decide +kernel
theorem dX5_takeMore_28 : decode cX5_takeMore 28 = .ok (.iconst 2, 1) := by decide +kernel
theorem dX5_takeMore_29 : decode cX5_takeMore 29 = .ok (.invokevirtual 101, 3) := by decide +kernel
theorem dX5_takeMore_32 : decode cX5_takeMore 32 = .ok (.goto 189, 3) := by decide +kernel
theorem dX5_takeMore_35 : decode cX5_takeMore 35 = .ok (.iload_n 2, 1) := by decide +kernel
theorem dX5_takeMore_36 : decode cX5_takeMore 36 = .ok (.iconst 4, 1) := by decide +kernel
theorem dX5_takeMore_37 : decode cX5_takeMore 37 = .ok (.if_icmp .ne 29, 3) := by decide +kernel
theorem dX5_takeMore_40 : decode cX5_takeMore 40 = .ok (.aload_n 0, 1) := by decide +kernel
theorem dX5_takeMore_41 : decode cX5_takeMore 41 = .ok (.getfield 38, 3) := by decide +kernel
theorem dX5_takeMore_44 : decode cX5_takeMore 44 = .ok (.iconst 1, 1) := by decide +kernel
theorem dX5_takeMore_45 : decode cX5_takeMore 45 = .ok (.if_icmp .ne 21, 3) := by decide +kernel
theorem dX5_takeMore_48 : decode cX5_takeMore 48 = .ok (.aload_n 0, 1) := by decide +kernel
theorem dX5_takeMore_49 : decode cX5_takeMore 49 = .ok (.invokevirtual 91, 3) := by decide +kernel
theorem dX5_takeMore_52 : decode cX5_takeMore 52 = .ok (.aload_n 0, 1) := by decide +kernel
theorem dX5_takeMore_53 : decode cX5_takeMore 53 = .ok (.iload_n 2, 1) := by decide +kernel
theorem dX5_takeMore_54 : decode cX5_takeMore 54 = .ok (.iconst 2, 1) := by decide +kernel
theorem dX5_takeMore_55 : decode cX5_takeMore 55 = .ok (.invokevirtual 101, 3) := by decide +kernel
theorem dX5_takeMore_58 : decode cX5_takeMore 58 = .ok (.aload_n 0, 1) := by decide +kernel
theorem dX5_takeMore_59 : decode cX5_takeMore 59 = .ok (.iconst 2, 1) := by decide +kernel
theorem dX5_takeMore_60 : decode cX5_takeMore 60 = .ok (.putfield 38, 3) := by decide +kernel
theorem dX5_takeMore_63 : decode cX5_takeMore 63 = .ok (.goto 158, 3) := by decide +kernel
theorem dX5_takeMore_66 : decode cX5_takeMore 66 = .ok (.iload_n 1, 1) := by decide +kernel
theorem dX5_takeMore_67 : decode cX5_takeMore 67 = .ok (.bipush 12, 2) := by decide +kernel
theorem dX5_takeMore_69 : decode cX5_takeMore 69 = .ok (.if_icmp .ne 30, 3) := by decide +kernel
theorem dX5_takeMore_72 : decode cX5_takeMore 72 = .ok (.aload_n 0, 1) := by decide +kernel
theorem dX5_takeMore_73 : decode cX5_takeMore 73 = .ok (.getfield 38, 3) := by decide +kernel
theorem dX5_takeMore_76 : decode cX5_takeMore 76 = .ok (.ifCond .ne 23, 3) := by decide +kernel
theorem dX5_takeMore_79 : decode cX5_takeMore 79 = .ok (.aload_n 0, 1) := by decide +kernel
theorem dX5_takeMore_80 : decode cX5_takeMore 80 = .ok (.iconst 1, 1) := by decide +kernel
theorem dX5_takeMore_81 : decode cX5_takeMore 81 = .ok (.invokevirtual 105, 3) := by decide +kernel
theorem dX5_takeMore_84 : decode cX5_takeMore 84 = .ok (.aload_n 0, 1) := by decide +kernel
theorem dX5_takeMore_85 : decode cX5_takeMore 85 = .ok (.getfield 44, 3) := by decide +kernel
theorem dX5_takeMore_88 : decode cX5_takeMore 88 = .ok (.invokevirtual 108, 3) := by decide +kernel
theorem dX5_takeMore_91 : decode cX5_takeMore 91 = .ok (.aload_n 0, 1) := by decide +kernel
theorem dX5_takeMore_92 : decode cX5_takeMore 92 = .ok (.iconst 1, 1) := by decide +kernel
theorem dX5_takeMore_93 : decode cX5_takeMore 93 = .ok (.putfield 35, 3) := by decide +kernel
theorem dX5_takeMore_96 : decode cX5_takeMore 96 = .ok (.goto 125, 3) := by decide +kernel
theorem dX5_takeMore_99 : decode cX5_takeMore 99 = .ok (.iload_n 1, 1) := by decide +kernel
theorem dX5_takeMore_100 : decode cX5_takeMore 100 = .ok (.bipush 14, 2) := by decide +kernel
theorem dX5_takeMore_102 : decode cX5_takeMore 102 = .ok (.if_icmp .eq 9, 3) := by decide +kernel
theorem dX5_takeMore_105 : decode cX5_takeMore 105 = .ok (.iload_n 1, 1) := by decide +kernel
theorem dX5_takeMore_106 : decode cX5_takeMore 106 = .ok (.bipush 13, 2) := by decide +kernel
theorem dX5_takeMore_108 : decode cX5_takeMore 108 = .ok (.if_icmp .ne 20, 3) := by decide +kernel
theorem dX5_takeMore_111 : decode cX5_takeMore 111 = .ok (.aload_n 0, 1) := by decide +kernel
theorem dX5_takeMore_112 : decode cX5_takeMore 112 = .ok (.getfield 38, 3) := by decide +kernel
theorem dX5_takeMore_115 : decode cX5_takeMore 115 = .ok (.iconst 2, 1) := by decide +kernel
theorem dX5_takeMore_116 : decode cX5_takeMore 116 = .ok (.if_icmp .lt 12, 3) := by decide +kernel
theorem dX5_takeMore_119 : decode cX5_takeMore 119 = .ok (.aload_n 0, 1) := by decide +kernel
theorem dX5_takeMore_120 : decode cX5_takeMore 120 = .ok (.iload_n 2, 1) := by decide +kernel
theorem dX5_takeMore_121 : decode cX5_takeMore 121 = .ok (.iconst 1, 1) := by decide +kernel
theorem dX5_takeMore_122 : decode cX5_takeMore 122 = .ok (.invokevirtual 101, 3) := by decide +kernel
theorem dX5_takeMore_125 : decode cX5_takeMore 125 = .ok (.goto 96, 3) := by decide +kernel
theorem dX5_takeMore_128 : decode cX5_takeMore 128 = .ok (.iload_n 1, 1) := by decide +kernel
theorem dX5_takeMore_129 : decode cX5_takeMore 129 = .ok (.bipush 22, 2) := by decide +kernel
theorem dX5_takeMore_131 : decode cX5_takeMore 131 = .ok (.if_icmp .ne 25, 3) := by decide +kernel
theorem dX5_takeMore_134 : decode cX5_takeMore 134 = .ok (.aload_n 0, 1) := by decide +kernel
theorem dX5_takeMore_135 : decode cX5_takeMore 135 = .ok (.getfield 38, 3) := by decide +kernel
theorem dX5_takeMore_138 : decode cX5_takeMore 138 = .ok (.iconst 2, 1) := by decide +kernel
theorem dX5_takeMore_139 : decode cX5_takeMore 139 = .ok (.if_icmp .lt 17, 3) := by decide +kernel
theorem dX5_takeMore_142 : decode cX5_takeMore 142 = .ok (.aload_n 0, 1) := by decide +kernel
theorem dX5_takeMore_143 : decode cX5_takeMore 143 = .ok (.getfield 29, 3) := by decide +kernel
theorem dX5_takeMore_146 : decode cX5_takeMore 146 = .ok (.ifCond .le 10, 3) := by decide +kernel
theorem dX5_takeMore_149 : decode cX5_takeMore 149 = .ok (.aload_n 0, 1) := by decide +kernel
theorem dX5_takeMore_150 : decode cX5_takeMore 150 = .ok (.invokevirtual 111, 3) := by decide +kernel
theorem dX5_takeMore_153 : decode cX5_takeMore 153 = .ok (.goto 68, 3) := by decide +kernel
theorem dX5_takeMore_156 : decode cX5_takeMore 156 = .ok (.iload_n 1, 1) := by decide +kernel
theorem dX5_takeMore_157 : decode cX5_takeMore 157 = .ok (.bipush 20, 2) := by decide +kernel
theorem dX5_takeMore_159 : decode cX5_takeMore 159 = .ok (.if_icmp .eq 9, 3) := by decide +kernel
theorem dX5_takeMore_162 : decode cX5_takeMore 162 = .ok (.iload_n 1, 1) := by decide +kernel
theorem dX5_takeMore_163 : decode cX5_takeMore 163 = .ok (.bipush 40, 2) := by decide +kernel
theorem dX5_takeMore_165 : decode cX5_takeMore 165 = .ok (.if_icmp .ne 48, 3) := by decide +kernel
theorem dX5_takeMore_168 : decode cX5_takeMore 168 = .ok (.aload_n 0, 1) := by decide +kernel
theorem dX5_takeMore_169 : decode cX5_takeMore 169 = .ok (.getfield 38, 3) := by decide +kernel
theorem dX5_takeMore_172 : decode cX5_takeMore 172 = .ok (.iconst 1, 1) := by decide +kernel
theorem dX5_takeMore_173 : decode cX5_takeMore 173 = .ok (.if_icmp .eq 40, 3) := by decide +kernel
theorem dX5_takeMore_176 : decode cX5_takeMore 176 = .ok (.aload_n 0, 1) := by decide +kernel
theorem dX5_takeMore_177 : decode cX5_takeMore 177 = .ok (.getfield 29, 3) := by decide +kernel
theorem dX5_takeMore_180 : decode cX5_takeMore 180 = .ok (.ifCond .ne 33, 3) := by decide +kernel
theorem dX5_takeMore_183 : decode cX5_takeMore 183 = .ok (.aload_n 0, 1) := by decide +kernel
theorem dX5_takeMore_184 : decode cX5_takeMore 184 = .ok (.iconst 1, 1) := by decide +kernel
theorem dX5_takeMore_185 : decode cX5_takeMore 185 = .ok (.invokevirtual 105, 3) := by decide +kernel
theorem dX5_takeMore_188 : decode cX5_takeMore 188 = .ok (.aload_n 0, 1) := by decide +kernel
theorem dX5_takeMore_189 : decode cX5_takeMore 189 = .ok (.getfield 44, 3) := by decide +kernel
theorem dX5_takeMore_192 : decode cX5_takeMore 192 = .ok (.invokevirtual 114, 3) := by decide +kernel
theorem dX5_takeMore_195 : decode cX5_takeMore 195 = .ok (.aload_n 0, 1) := by decide +kernel
theorem dX5_takeMore_196 : decode cX5_takeMore 196 = .ok (.iload_n 1, 1) := by decide +kernel
theorem dX5_takeMore_197 : decode cX5_takeMore 197 = .ok (.bipush 20, 2) := by decide +kernel
theorem dX5_takeMore_199 : decode cX5_takeMore 199 = .ok (.if_icmp .ne 7, 3) := by decide +kernel
theorem dX5_takeMore_202 : decode cX5_takeMore 202 = .ok (.iconst 0, 1) := by decide +kernel
theorem dX5_takeMore_203 : decode cX5_takeMore 203 = .ok (.goto 4, 3) := by decide +kernel
theorem dX5_takeMore_206 : decode cX5_takeMore 206 = .ok (.iconst 4, 1) := by decide +kernel
theorem dX5_takeMore_207 : decode cX5_takeMore 207 = .ok (.putfield 35, 3) := by decide +kernel
theorem dX5_takeMore_210 : decode cX5_takeMore 210 = .ok (.goto 11, 3) := by decide +kernel
theorem dX5_takeMore_213 : decode cX5_takeMore 213 = .ok (.aload_n 0, 1) := by decide +kernel
theorem dX5_takeMore_214 : decode cX5_takeMore 214 = .ok (.getfield 12, 3) := by decide +kernel
theorem dX5_takeMore_217 : decode cX5_takeMore 217 = .ok (.iconst 0, 1) := by decide +kernel
theorem dX5_takeMore_218 : decode cX5_takeMore 218 = .ok (.invokevirtual 78, 3) := by decide +kernel
theorem dX5_takeMore_221 : decode cX5_takeMore 221 = .ok (.return_, 1) := by decide +kernel
theorem hd_X4_beginTest : yX4_beginTest.cls ≠ "java/lang/invoke/MethodHandle" ∧ yX4_beginTest.cls ≠ "java/lang/invoke/VarHandle" ∧ (parseMethodDescriptor yX4_beginTest.desc).map (fun d => d.parameters.length) = some 0 := ⟨by decide +kernel, by decide +kernel, by decide +kernel⟩
theorem hd_X4_closeClause : yX4_closeClause.cls ≠ "java/lang/invoke/MethodHandle" ∧ yX4_closeClause.cls ≠ "java/lang/invoke/VarHandle" ∧ (parseMethodDescriptor yX4_closeClause.desc).map (fun d => d.parameters.length) = some 0 := ⟨by decide +kernel, by decide +kernel, by decide +kernel⟩
theorem hd_X5_closeBracket : yX5_closeBracket.cls ≠ "java/lang/invoke/MethodHandle" ∧ yX5_closeBracket.cls ≠ "java/lang/invoke/VarHandle" ∧ (parseMethodDescriptor yX5_closeBracket.desc).map (fun d => d.parameters.length) = some 0 := ⟨by decide +kernel, by decide +kernel, by decide +kernel⟩
theorem hd_X5_takeOperator : yX5_takeOperator.cls ≠ "java/lang/invoke/MethodHandle" ∧ yX5_takeOperator.cls ≠ "java/lang/invoke/VarHandle" ∧ (parseMethodDescriptor yX5_takeOperator.desc).map (fun d => d.parameters.length) = some 2 := ⟨by decide +kernel, by decide +kernel, by decide +kernel⟩
theorem hd_X5_takeValue : yX5_takeValue.cls ≠ "java/lang/invoke/MethodHandle" ∧ yX5_takeValue.cls ≠ "java/lang/invoke/VarHandle" ∧ (parseMethodDescriptor yX5_takeValue.desc).map (fun d => d.parameters.length) = some 0 := ⟨by decide +kernel, by decide +kernel, by decide +kernel⟩
set_option maxHeartbeats 4000000 in
set_option maxRecDepth 100000 in
theorem rr_takeFact (l : Launch) (D : va_G) (K : Nat → ClassId) (ad : Nat → Nat) (z : TS) (o : Ok z) : cV l yX5_takeFact cX5_takeFact 1 ({ frames := 3, cells := 0, slots := 0, locals := 62 }) D K ad z [.ref (ad 5)] (fun u => Ok u ∧ KC z u ∧ tI u 0 5 = tI z 0 5) := by
  refine t_enterV (by decide) (Nat.le_of_ble_eq_true rfl) rfl rfl ?_
  intro p e s m args below meth c A R Q H locs ls E hfr hlo RET G hl
  have E : mE p s m meth c cX5_takeFact args 1 RX5 D K A := E
  have hl : lv_has ls 1 [(0, .ref (ad 5))] := hl
  refine lv_aload_n E.1 E.2.1 dX5_takeFact_0 rfl (lv_at hl 0 rfl) ?_
  refine t_get E G 5 0 (rfl : ro 5 = 5) (C := RX5) (T := TX5) (N := 9) rfl (by decide) (by decide) (by decide) mw_fl_5_12 (fvl_d rfl) dX5_takeFact_1 ?_
  obtain ⟨qq1, eqq1⟩ : ∃ q : Nat, q = tP z 5 0 := ⟨_, rfl⟩
  have aqq1 : at_ 7 qq1 = true := by rw [eqq1]; exact o.p 5 0 (rfl : ro 5 = 5) (by decide)
  rw [← eqq1]
  refine t_get E G 7 3 (at_ro (i := 0) aqq1 (by decide) : ro qq1 = 7) (C := RX7) (T := TX7) (N := 7) rfl (by decide) (by decide) (by decide) mw_fl_5_75 (fvl_i rfl) dX5_takeFact_4 ?_
  refine lv_topi (fun v2 e3 => ?_)
  have b4 : iv 0 42 v2 := by rw [e3]; exact o.i 7 3 (at_ro (i := 0) aqq1 (by decide) : ro qq1 = 7)
  refine lv_bipush (v := 15) E.1 E.2.1 dX5_takeFact_7 (by decide) ?_
  refine lv_icmp_eq (tgt := 36) E.1 E.2.1 dX5_takeFact_9 (by decide) (fun c5 => ?_) (fun c5 => ?_)
  · skip
    have b6 : iv 15 15 v2 := iv_eq c5 (iv_lit (lo := 15) (hi := 15) 15 (by decide) (by decide))
    refine lv_aload_n E.1 E.2.1 dX5_takeFact_36 rfl (lv_at hl 0 rfl) ?_
    refine t_get E G 5 3 (rfl : ro 5 = 5) (C := RX5) (T := TX5) (N := 9) rfl (by decide) (by decide) (by decide) mw_fl_5_26 (fvl_i rfl) dX5_takeFact_37 ?_
    refine lv_topi (fun v7 e8 => ?_)
    refine lv_bipush (v := 10) E.1 E.2.1 dX5_takeFact_40 (by decide) ?_
    refine lv_icmp_lt (tgt := 56) E.1 E.2.1 dX5_takeFact_42 (by decide) (fun c9 => ?_) (fun c9 => ?_)
    · skip
      have b10 : iv (-2147483648) 9 v7 := lt_l c9 (iv_full v7) (iv_lit (lo := 10) (hi := 10) 10 (by decide) (by decide)) (by decide)
      refine lv_aload_n E.1 E.2.1 dX5_takeFact_56 rfl (lv_at hl 0 rfl) ?_
      refine lv_dup E.1 E.2.1 dX5_takeFact_57 rfl ?_
      refine t_get E G 5 3 (rfl : ro 5 = 5) (C := RX5) (T := TX5) (N := 9) rfl (by decide) (by decide) (by decide) mw_fl_5_26 (fvl_i rfl) dX5_takeFact_58 ?_
      refine m_ci v7 e8.symm ?_
      refine lv_iconst (v := 1) E.1 E.2.1 dX5_takeFact_61 (by decide) ?_
      refine lv_iadd E.1 E.2.1 dX5_takeFact_62 ?_
      refine lv_topi (fun v11 e12 => ?_)
      have b13 : iv (-2147483647) 10 v11 := by rw [e12]; exact iv_add b10 (iv_lit (lo := 1) (hi := 1) 1 (by decide) (by decide)) (by decide) (by decide) (by decide) (by decide)
      refine t_puti E G 5 3 (rfl : ro 5 = 5) (C := RX5) (T := TX5) (N := 9) rfl (by decide) (by decide) (by decide) rfl rfl mw_fl_5_26 rfl dX5_takeFact_63 (fun H locs G => ?_)
      obtain ⟨zz14, G, oo15, kk16, h17, h18, h19, h20⟩ : ∃ u : TS, mG D A s H locs (wd K ad u) ∧ Ok u ∧ KC z u ∧ tI u 0 5 = (tI z 0 5) ∧ tI u qq1 3 = v2 ∧ tI u 5 3 = v11 ∧ tP u 5 0 = qq1 := ⟨_, G, ok_i o 5 (rfl : ro 5 = 5) (iv_mono b13 (by decide) (by decide)) (by decide), KC.tr KC.rf (KC_i 5 (rfl : ro 5 = 5) (by decide)), (sI_k rfl (by decide)), (sI_j e3.symm (ro_ne (at_ro (i := 0) aqq1 (by decide) : ro qq1 = 7) (rfl : ro 5 = 5) (by decide))), sI_self, eqq1.symm⟩
      refine lv_aload_n E.1 E.2.1 dX5_takeFact_66 rfl (lv_at hl 0 rfl) ?_
      refine lv_dup E.1 E.2.1 dX5_takeFact_67 rfl ?_
      refine t_get E G 5 4 (rfl : ro 5 = 5) (C := RX5) (T := TX5) (N := 9) rfl (by decide) (by decide) (by decide) mw_fl_5_29 (fvl_i rfl) dX5_takeFact_68 ?_
      refine lv_topi (fun v21 e22 => ?_)
      refine lv_aload_n E.1 E.2.1 dX5_takeFact_71 rfl (lv_at hl 0 rfl) ?_
      refine t_get E G 5 0 (rfl : ro 5 = 5) (C := RX5) (T := TX5) (N := 9) rfl (by decide) (by decide) (by decide) mw_fl_5_12 (fvl_d rfl) dX5_takeFact_72 ?_
      rw [h20]
      refine t_get E G 7 3 (at_ro (i := 0) aqq1 (by decide) : ro qq1 = 7) (C := RX7) (T := TX7) (N := 7) rfl (by decide) (by decide) (by decide) mw_fl_5_75 (fvl_i rfl) dX5_takeFact_75 ?_
      refine m_ci v2 h18 ?_
      refine lv_bipush (v := 21) E.1 E.2.1 dX5_takeFact_78 (by decide) ?_
      refine lv_icmp_ne (tgt := 87) E.1 E.2.1 dX5_takeFact_80 (by decide) (fun _ => ?_) (fun h => absurd h (ivne1 b6 (iv_lit (lo := 21) (hi := 21) 21 (by decide) (by decide)) (by decide)))
      refine lv_iconst (v := 0) E.1 E.2.1 dX5_takeFact_87 (by decide) ?_
      refine lv_iadd E.1 E.2.1 dX5_takeFact_88 ?_
      refine lv_topi (fun v24 e25 => ?_)
      refine t_puti E G 5 4 (rfl : ro 5 = 5) (C := RX5) (T := TX5) (N := 9) rfl (by decide) (by decide) (by decide) rfl rfl mw_fl_5_29 rfl dX5_takeFact_89 (fun H locs G => ?_)
      obtain ⟨zz26, G, oo27, kk28, h29, h30, h31, h32, h33⟩ : ∃ u : TS, mG D A s H locs (wd K ad u) ∧ Ok u ∧ KC z u ∧ tI u 0 5 = (tI z 0 5) ∧ tI u qq1 3 = v2 ∧ tI u 5 3 = v11 ∧ tI u 5 4 = v24 ∧ tP u 5 0 = qq1 := ⟨_, G, ok_i oo15 5 (rfl : ro 5 = 5) (iv_mono (iv_full v24) (by decide) (by decide)) (by decide), KC.tr kk16 (KC_i 5 (rfl : ro 5 = 5) (by decide)), (sI_k h17 (by decide)), (sI_k h18 (by decide)), (sI_k h19 (by decide)), sI_self, h20⟩
      refine lv_aload_n E.1 E.2.1 dX5_takeFact_92 rfl (lv_at hl 0 rfl) ?_
      refine lv_aload_n E.1 E.2.1 dX5_takeFact_93 rfl (lv_at hl 0 rfl) ?_
      refine t_get E G 5 0 (rfl : ro 5 = 5) (C := RX5) (T := TX5) (N := 9) rfl (by decide) (by decide) (by decide) mw_fl_5_12 (fvl_d rfl) dX5_takeFact_94 ?_
      rw [h33]
      refine t_get E G 7 3 (at_ro (i := 0) aqq1 (by decide) : ro qq1 = 7) (C := RX7) (T := TX7) (N := 7) rfl (by decide) (by decide) (by decide) mw_fl_5_75 (fvl_i rfl) dX5_takeFact_97 ?_
      refine m_ci v2 h30 ?_
      refine t_vv E G hl (rr_hold l D K ad zz26 oo27 v2 (iv_mono b6 (by decide) (by decide))) 5 (rfl : ro 5 = 5) (by decide) rfl rfl 1 rfl mw_code_X5_hold mw_ini_5 mw_ml_5_85 mw_inst_X5_hold mw_sel_X5_hold hd_X5_hold ⟨Nat.le_trans (by decide) hfr, Nat.le_trans (by decide) hlo⟩ rfl rfl rfl (Nat.le_of_ble_eq_true rfl) dX5_takeFact_100 (fun zz35 H locs hp37 G => ?_)
      obtain ⟨oo38, kk39, h40⟩ := hp37
      have kk41 : KC z zz35 := KC.tr kk28 kk39
      exact RET G ⟨oo38, kk41, (h40.trans h29)⟩ dX5_takeFact_103
    · skip
      have b42 : iv 10 2147483647 v7 := le_r (Int32.not_lt.mp c9) (iv_lit (lo := 10) (hi := 10) 10 (by decide) (by decide)) (iv_full v7) (by decide)
      refine lv_aload_n E.1 E.2.1 dX5_takeFact_45 rfl (lv_at hl 0 rfl) ?_
      refine t_get E G 5 0 (rfl : ro 5 = 5) (C := RX5) (T := TX5) (N := 9) rfl (by decide) (by decide) (by decide) mw_fl_5_12 (fvl_d rfl) dX5_takeFact_46 ?_
      rw [eqq1.symm]
      refine lv_iconst (v := 2) E.1 E.2.1 dX5_takeFact_49 (by decide) ?_
      refine t_vv E G hl (tp_blame l D K ad z o qq1 aqq1 (2 : Int32)) 7 (at_ro (i := 0) aqq1 (by decide) : ro qq1 = 7) (by decide) rfl rfl 1 rfl mw_code_X7_blame mw_ini_7 mw_ml_5_78 mw_inst_X7_blame mw_sel_X7_blame hd_X7_blame ⟨Nat.le_trans (by decide) hfr, Nat.le_trans (by decide) hlo⟩ rfl rfl rfl (Nat.le_of_ble_eq_true rfl) dX5_takeFact_50 (fun zz44 H locs hp46 G => ?_)
      obtain ⟨oo47, kk48⟩ := hp46
      have kk49 : KC z zz44 := KC.tr KC.rf (KT.c kk48)
      have h50 : tI zz44 0 5 = (tI z 0 5) := KF.i kk48 10 (rfl : ro 0 = 10) (by decide) rfl
      have h51 : tI zz44 5 3 = v7 := KF.i kk48 5 (rfl : ro 5 = 5) (by decide) e8.symm
      have h52 : tP zz44 5 0 = qq1 := KF.p kk48 eqq1.symm
      refine lv_goto (tgt := 103) E.1 E.2.1 dX5_takeFact_53 (by decide) ?_
      exact RET G ⟨oo47, kk49, h50⟩ dX5_takeFact_103
  · skip
    refine lv_aload_n E.1 E.2.1 dX5_takeFact_12 rfl (lv_at hl 0 rfl) ?_
    refine t_get E G 5 0 (rfl : ro 5 = 5) (C := RX5) (T := TX5) (N := 9) rfl (by decide) (by decide) (by decide) mw_fl_5_12 (fvl_d rfl) dX5_takeFact_13 ?_
    rw [eqq1.symm]
    refine t_get E G 7 3 (at_ro (i := 0) aqq1 (by decide) : ro qq1 = 7) (C := RX7) (T := TX7) (N := 7) rfl (by decide) (by decide) (by decide) mw_fl_5_75 (fvl_i rfl) dX5_takeFact_16 ?_
    refine m_ci v2 e3.symm ?_
    refine lv_bipush (v := 21) E.1 E.2.1 dX5_takeFact_19 (by decide) ?_
    refine lv_icmp_eq (tgt := 36) E.1 E.2.1 dX5_takeFact_21 (by decide) (fun c54 => ?_) (fun c54 => ?_)
    · skip
      have b55 : iv 21 21 v2 := iv_eq c54 (iv_lit (lo := 21) (hi := 21) 21 (by decide) (by decide))
      refine lv_aload_n E.1 E.2.1 dX5_takeFact_36 rfl (lv_at hl 0 rfl) ?_
      refine t_get E G 5 3 (rfl : ro 5 = 5) (C := RX5) (T := TX5) (N := 9) rfl (by decide) (by decide) (by decide) mw_fl_5_26 (fvl_i rfl) dX5_takeFact_37 ?_
      refine lv_topi (fun v56 e57 => ?_)
      refine lv_bipush (v := 10) E.1 E.2.1 dX5_takeFact_40 (by decide) ?_
      refine lv_icmp_lt (tgt := 56) E.1 E.2.1 dX5_takeFact_42 (by decide) (fun c58 => ?_) (fun c58 => ?_)
      · skip
        have b59 : iv (-2147483648) 9 v56 := lt_l c58 (iv_full v56) (iv_lit (lo := 10) (hi := 10) 10 (by decide) (by decide)) (by decide)
        refine lv_aload_n E.1 E.2.1 dX5_takeFact_56 rfl (lv_at hl 0 rfl) ?_
        refine lv_dup E.1 E.2.1 dX5_takeFact_57 rfl ?_
        refine t_get E G 5 3 (rfl : ro 5 = 5) (C := RX5) (T := TX5) (N := 9) rfl (by decide) (by decide) (by decide) mw_fl_5_26 (fvl_i rfl) dX5_takeFact_58 ?_
        refine m_ci v56 e57.symm ?_
        refine lv_iconst (v := 1) E.1 E.2.1 dX5_takeFact_61 (by decide) ?_
        refine lv_iadd E.1 E.2.1 dX5_takeFact_62 ?_
        refine lv_topi (fun v60 e61 => ?_)
        have b62 : iv (-2147483647) 10 v60 := by rw [e61]; exact iv_add b59 (iv_lit (lo := 1) (hi := 1) 1 (by decide) (by decide)) (by decide) (by decide) (by decide) (by decide)
        refine t_puti E G 5 3 (rfl : ro 5 = 5) (C := RX5) (T := TX5) (N := 9) rfl (by decide) (by decide) (by decide) rfl rfl mw_fl_5_26 rfl dX5_takeFact_63 (fun H locs G => ?_)
        obtain ⟨zz63, G, oo64, kk65, h66, h67, h68, h69⟩ : ∃ u : TS, mG D A s H locs (wd K ad u) ∧ Ok u ∧ KC z u ∧ tI u 0 5 = (tI z 0 5) ∧ tI u qq1 3 = v2 ∧ tI u 5 3 = v60 ∧ tP u 5 0 = qq1 := ⟨_, G, ok_i o 5 (rfl : ro 5 = 5) (iv_mono b62 (by decide) (by decide)) (by decide), KC.tr KC.rf (KC_i 5 (rfl : ro 5 = 5) (by decide)), (sI_k rfl (by decide)), (sI_j e3.symm (ro_ne (at_ro (i := 0) aqq1 (by decide) : ro qq1 = 7) (rfl : ro 5 = 5) (by decide))), sI_self, eqq1.symm⟩
        refine lv_aload_n E.1 E.2.1 dX5_takeFact_66 rfl (lv_at hl 0 rfl) ?_
        refine lv_dup E.1 E.2.1 dX5_takeFact_67 rfl ?_
        refine t_get E G 5 4 (rfl : ro 5 = 5) (C := RX5) (T := TX5) (N := 9) rfl (by decide) (by decide) (by decide) mw_fl_5_29 (fvl_i rfl) dX5_takeFact_68 ?_
        refine lv_topi (fun v70 e71 => ?_)
        refine lv_aload_n E.1 E.2.1 dX5_takeFact_71 rfl (lv_at hl 0 rfl) ?_
        refine t_get E G 5 0 (rfl : ro 5 = 5) (C := RX5) (T := TX5) (N := 9) rfl (by decide) (by decide) (by decide) mw_fl_5_12 (fvl_d rfl) dX5_takeFact_72 ?_
        rw [h69]
        refine t_get E G 7 3 (at_ro (i := 0) aqq1 (by decide) : ro qq1 = 7) (C := RX7) (T := TX7) (N := 7) rfl (by decide) (by decide) (by decide) mw_fl_5_75 (fvl_i rfl) dX5_takeFact_75 ?_
        refine m_ci v2 h67 ?_
        refine lv_bipush (v := 21) E.1 E.2.1 dX5_takeFact_78 (by decide) ?_
        refine lv_icmp_ne (tgt := 87) E.1 E.2.1 dX5_takeFact_80 (by decide) (fun h => absurd c54 h) (fun _ => ?_)
        refine lv_iconst (v := 1) E.1 E.2.1 dX5_takeFact_83 (by decide) ?_
        refine lv_goto (tgt := 88) E.1 E.2.1 dX5_takeFact_84 (by decide) ?_
        refine lv_iadd E.1 E.2.1 dX5_takeFact_88 ?_
        refine lv_topi (fun v73 e74 => ?_)
        refine t_puti E G 5 4 (rfl : ro 5 = 5) (C := RX5) (T := TX5) (N := 9) rfl (by decide) (by decide) (by decide) rfl rfl mw_fl_5_29 rfl dX5_takeFact_89 (fun H locs G => ?_)
        obtain ⟨zz75, G, oo76, kk77, h78, h79, h80, h81, h82⟩ : ∃ u : TS, mG D A s H locs (wd K ad u) ∧ Ok u ∧ KC z u ∧ tI u 0 5 = (tI z 0 5) ∧ tI u qq1 3 = v2 ∧ tI u 5 3 = v60 ∧ tI u 5 4 = v73 ∧ tP u 5 0 = qq1 := ⟨_, G, ok_i oo64 5 (rfl : ro 5 = 5) (iv_mono (iv_full v73) (by decide) (by decide)) (by decide), KC.tr kk65 (KC_i 5 (rfl : ro 5 = 5) (by decide)), (sI_k h66 (by decide)), (sI_k h67 (by decide)), (sI_k h68 (by decide)), sI_self, h69⟩
        refine lv_aload_n E.1 E.2.1 dX5_takeFact_92 rfl (lv_at hl 0 rfl) ?_
        refine lv_aload_n E.1 E.2.1 dX5_takeFact_93 rfl (lv_at hl 0 rfl) ?_
        refine t_get E G 5 0 (rfl : ro 5 = 5) (C := RX5) (T := TX5) (N := 9) rfl (by decide) (by decide) (by decide) mw_fl_5_12 (fvl_d rfl) dX5_takeFact_94 ?_
        rw [h82]
        refine t_get E G 7 3 (at_ro (i := 0) aqq1 (by decide) : ro qq1 = 7) (C := RX7) (T := TX7) (N := 7) rfl (by decide) (by decide) (by decide) mw_fl_5_75 (fvl_i rfl) dX5_takeFact_97 ?_
        refine m_ci v2 h79 ?_
        refine t_vv E G hl (rr_hold l D K ad zz75 oo76 v2 (iv_mono b55 (by decide) (by decide))) 5 (rfl : ro 5 = 5) (by decide) rfl rfl 1 rfl mw_code_X5_hold mw_ini_5 mw_ml_5_85 mw_inst_X5_hold mw_sel_X5_hold hd_X5_hold ⟨Nat.le_trans (by decide) hfr, Nat.le_trans (by decide) hlo⟩ rfl rfl rfl (Nat.le_of_ble_eq_true rfl) dX5_takeFact_100 (fun zz84 H locs hp86 G => ?_)
        obtain ⟨oo87, kk88, h89⟩ := hp86
        have kk90 : KC z zz84 := KC.tr kk77 kk88
        exact RET G ⟨oo87, kk90, (h89.trans h78)⟩ dX5_takeFact_103
      · skip
        have b91 : iv 10 2147483647 v56 := le_r (Int32.not_lt.mp c58) (iv_lit (lo := 10) (hi := 10) 10 (by decide) (by decide)) (iv_full v56) (by decide)
        refine lv_aload_n E.1 E.2.1 dX5_takeFact_45 rfl (lv_at hl 0 rfl) ?_
        refine t_get E G 5 0 (rfl : ro 5 = 5) (C := RX5) (T := TX5) (N := 9) rfl (by decide) (by decide) (by decide) mw_fl_5_12 (fvl_d rfl) dX5_takeFact_46 ?_
        rw [eqq1.symm]
        refine lv_iconst (v := 2) E.1 E.2.1 dX5_takeFact_49 (by decide) ?_
        refine t_vv E G hl (tp_blame l D K ad z o qq1 aqq1 (2 : Int32)) 7 (at_ro (i := 0) aqq1 (by decide) : ro qq1 = 7) (by decide) rfl rfl 1 rfl mw_code_X7_blame mw_ini_7 mw_ml_5_78 mw_inst_X7_blame mw_sel_X7_blame hd_X7_blame ⟨Nat.le_trans (by decide) hfr, Nat.le_trans (by decide) hlo⟩ rfl rfl rfl (Nat.le_of_ble_eq_true rfl) dX5_takeFact_50 (fun zz93 H locs hp95 G => ?_)
        obtain ⟨oo96, kk97⟩ := hp95
        have kk98 : KC z zz93 := KC.tr KC.rf (KT.c kk97)
        have h99 : tI zz93 0 5 = (tI z 0 5) := KF.i kk97 10 (rfl : ro 0 = 10) (by decide) rfl
        have h100 : tI zz93 5 3 = v56 := KF.i kk97 5 (rfl : ro 5 = 5) (by decide) e57.symm
        have h101 : tP zz93 5 0 = qq1 := KF.p kk97 eqq1.symm
        refine lv_goto (tgt := 103) E.1 E.2.1 dX5_takeFact_53 (by decide) ?_
        exact RET G ⟨oo96, kk98, h99⟩ dX5_takeFact_103
    · skip
      refine lv_aload_n E.1 E.2.1 dX5_takeFact_24 rfl (lv_at hl 0 rfl) ?_
      refine lv_iconst (v := 1) E.1 E.2.1 dX5_takeFact_25 (by decide) ?_
      refine t_puti E G 5 7 (rfl : ro 5 = 5) (C := RX5) (T := TX5) (N := 9) rfl (by decide) (by decide) (by decide) rfl rfl mw_fl_5_38 rfl dX5_takeFact_26 (fun H locs G => ?_)
      obtain ⟨zz102, G, oo103, kk104, h105, h106, h107, h108⟩ : ∃ u : TS, mG D A s H locs (wd K ad u) ∧ Ok u ∧ KC z u ∧ tI u 0 5 = (tI z 0 5) ∧ tI u qq1 3 = v2 ∧ tI u 5 7 = 1 ∧ tP u 5 0 = qq1 := ⟨_, G, ok_i o 5 (rfl : ro 5 = 5) (iv_mono (iv_lit (lo := 1) (hi := 1) 1 (by decide) (by decide)) (by decide) (by decide)) (by decide), KC.tr KC.rf (KC_i 5 (rfl : ro 5 = 5) (by decide)), (sI_k rfl (by decide)), (sI_k e3.symm (by decide)), sI_self, eqq1.symm⟩
      refine lv_aload_n E.1 E.2.1 dX5_takeFact_29 rfl (lv_at hl 0 rfl) ?_
      refine t_vv E G hl (rr_takeValue l D K ad zz102 oo103) 5 (rfl : ro 5 = 5) (by decide) rfl rfl 0 rfl mw_code_X5_takeValue mw_ini_5 mw_ml_5_69 mw_inst_X5_takeValue mw_sel_X5_takeValue hd_X5_takeValue ⟨Nat.le_trans (by decide) hfr, Nat.le_trans (by decide) hlo⟩ rfl rfl rfl (Nat.le_of_ble_eq_true rfl) dX5_takeFact_30 (fun zz109 H locs hp111 G => ?_)
      obtain ⟨oo112, kk113, h114⟩ := hp111
      have kk115 : KC z zz109 := KC.tr kk104 kk113
      refine lv_goto (tgt := 103) E.1 E.2.1 dX5_takeFact_33 (by decide) ?_
      exact RET G ⟨oo112, kk115, (h114.trans h105)⟩ dX5_takeFact_103
set_option maxHeartbeats 4000000 in
set_option maxRecDepth 100000 in
theorem rr_takeMore (l : Launch) (D : va_G) (K : Nat → ClassId) (ad : Nat → Nat) (z : TS) (o : Ok z) : cV l yX5_takeMore cX5_takeMore 3 ({ frames := 3, cells := 0, slots := 0, locals := 64 }) D K ad z [.ref (ad 5)] (fun u => Ok u ∧ KC z u ∧ tI u 0 5 = tI z 0 5) := by
  refine t_enterV (by decide) (Nat.le_of_ble_eq_true rfl) rfl rfl ?_
  intro p e s m args below meth c A R Q H locs ls E hfr hlo RET G hl
  have E : mE p s m meth c cX5_takeMore args 3 RX5 D K A := E
  have hl : lv_has ls 3 [(0, .ref (ad 5))] := hl
  refine lv_aload_n E.1 E.2.1 dX5_takeMore_0 rfl (lv_at hl 0 rfl) ?_
  refine t_get E G 5 0 (rfl : ro 5 = 5) (C := RX5) (T := TX5) (N := 9) rfl (by decide) (by decide) (by decide) mw_fl_5_12 (fvl_d rfl) dX5_takeMore_1 ?_
  obtain ⟨qq1, eqq1⟩ : ∃ q : Nat, q = tP z 5 0 := ⟨_, rfl⟩
  have aqq1 : at_ 7 qq1 = true := by rw [eqq1]; exact o.p 5 0 (rfl : ro 5 = 5) (by decide)
  rw [← eqq1]
  refine t_get E G 7 3 (at_ro (i := 0) aqq1 (by decide) : ro qq1 = 7) (C := RX7) (T := TX7) (N := 7) rfl (by decide) (by decide) (by decide) mw_fl_5_75 (fvl_i rfl) dX5_takeMore_4 ?_
  refine lv_topi (fun v2 e3 => ?_)
  have b4 : iv 0 42 v2 := by rw [e3]; exact o.i 7 3 (at_ro (i := 0) aqq1 (by decide) : ro qq1 = 7)
  refine lv_istore_n (lv' := [(1, .int v2), (0, .ref (ad 5))]) E.1 E.2.1 dX5_takeMore_7 rfl hl (by decide) rfl (fun ls hl => ?_)
  refine lv_iload_n E.1 E.2.1 dX5_takeMore_8 rfl (lv_at hl 0 rfl) ?_
  refine t_si E G hl (rr_rankOf l D K ad z o v2) 1 rfl mw_code_X5_rankOf mw_ini_5 mw_ml_5_97 mw_stat_X5_rankOf hd_X5_rankOf ⟨Nat.le_trans (by decide) hfr, Nat.le_trans (by decide) hlo⟩ rfl rfl rfl (Nat.le_of_ble_eq_true rfl) dX5_takeMore_9 (fun r6 zz5 H locs hp7 G => ?_)
  obtain ⟨hz9, b8⟩ := hp7
  rw [hz9] at G
  refine lv_istore_n (lv' := [(2, .int r6), (1, .int v2), (0, .ref (ad 5))]) E.1 E.2.1 dX5_takeMore_12 rfl hl (by decide) rfl (fun ls hl => ?_)
  refine lv_iload_n E.1 E.2.1 dX5_takeMore_13 rfl (lv_at hl 0 rfl) ?_
  refine lv_iconst (v := 5) E.1 E.2.1 dX5_takeMore_14 (by decide) ?_
  refine lv_icmp_lt (tgt := 35) E.1 E.2.1 dX5_takeMore_15 (by decide) (fun c10 => ?_) (fun c10 => ?_)
  · skip
    have b11 : iv 0 4 r6 := lt_l c10 b8 (iv_lit (lo := 5) (hi := 5) 5 (by decide) (by decide)) (by decide)
    refine lv_iload_n E.1 E.2.1 dX5_takeMore_35 rfl (lv_at hl 0 rfl) ?_
    refine lv_iconst (v := 4) E.1 E.2.1 dX5_takeMore_36 (by decide) ?_
    refine lv_icmp_ne (tgt := 66) E.1 E.2.1 dX5_takeMore_37 (by decide) (fun c12 => ?_) (fun c12 => ?_)
    · skip
      have b13 : iv 0 3 r6 := ne_hi c12 b11 (by decide) (by decide)
      refine lv_iload_n E.1 E.2.1 dX5_takeMore_66 rfl (lv_at hl 1 rfl) ?_
      refine lv_bipush (v := 12) E.1 E.2.1 dX5_takeMore_67 (by decide) ?_
      refine lv_icmp_ne (tgt := 99) E.1 E.2.1 dX5_takeMore_69 (by decide) (fun c14 => ?_) (fun c14 => ?_)
      · skip
        refine lv_iload_n E.1 E.2.1 dX5_takeMore_99 rfl (lv_at hl 1 rfl) ?_
        refine lv_bipush (v := 14) E.1 E.2.1 dX5_takeMore_100 (by decide) ?_
        refine lv_icmp_eq (tgt := 111) E.1 E.2.1 dX5_takeMore_102 (by decide) (fun c15 => ?_) (fun c15 => ?_)
        · skip
          have b16 : iv 14 14 v2 := iv_eq c15 (iv_lit (lo := 14) (hi := 14) 14 (by decide) (by decide))
          refine lv_aload_n E.1 E.2.1 dX5_takeMore_111 rfl (lv_at hl 2 rfl) ?_
          refine t_get E G 5 7 (rfl : ro 5 = 5) (C := RX5) (T := TX5) (N := 9) rfl (by decide) (by decide) (by decide) mw_fl_5_38 (fvl_i rfl) dX5_takeMore_112 ?_
          refine lv_topi (fun v17 e18 => ?_)
          refine lv_iconst (v := 2) E.1 E.2.1 dX5_takeMore_115 (by decide) ?_
          refine lv_icmp_lt (tgt := 128) E.1 E.2.1 dX5_takeMore_116 (by decide) (fun c19 => ?_) (fun c19 => ?_)
          · skip
            have b20 : iv (-2147483648) 1 v17 := lt_l c19 (iv_full v17) (iv_lit (lo := 2) (hi := 2) 2 (by decide) (by decide)) (by decide)
            refine lv_iload_n E.1 E.2.1 dX5_takeMore_128 rfl (lv_at hl 1 rfl) ?_
            refine lv_bipush (v := 22) E.1 E.2.1 dX5_takeMore_129 (by decide) ?_
            refine lv_icmp_ne (tgt := 156) E.1 E.2.1 dX5_takeMore_131 (by decide) (fun _ => ?_) (fun h => absurd h (ivne1 b16 (iv_lit (lo := 22) (hi := 22) 22 (by decide) (by decide)) (by decide)))
            refine lv_iload_n E.1 E.2.1 dX5_takeMore_156 rfl (lv_at hl 1 rfl) ?_
            refine lv_bipush (v := 20) E.1 E.2.1 dX5_takeMore_157 (by decide) ?_
            refine lv_icmp_eq (tgt := 168) E.1 E.2.1 dX5_takeMore_159 (by decide) (fun h => absurd h (ivne1 b16 (iv_lit (lo := 20) (hi := 20) 20 (by decide) (by decide)) (by decide))) (fun _ => ?_)
            refine lv_iload_n E.1 E.2.1 dX5_takeMore_162 rfl (lv_at hl 1 rfl) ?_
            refine lv_bipush (v := 40) E.1 E.2.1 dX5_takeMore_163 (by decide) ?_
            refine lv_icmp_ne (tgt := 213) E.1 E.2.1 dX5_takeMore_165 (by decide) (fun _ => ?_) (fun h => absurd h (ivne1 b16 (iv_lit (lo := 40) (hi := 40) 40 (by decide) (by decide)) (by decide)))
            refine lv_aload_n E.1 E.2.1 dX5_takeMore_213 rfl (lv_at hl 2 rfl) ?_
            refine t_get E G 5 0 (rfl : ro 5 = 5) (C := RX5) (T := TX5) (N := 9) rfl (by decide) (by decide) (by decide) mw_fl_5_12 (fvl_d rfl) dX5_takeMore_214 ?_
            rw [eqq1.symm]
            refine lv_iconst (v := 0) E.1 E.2.1 dX5_takeMore_217 (by decide) ?_
            refine t_vv E G hl (tp_blame l D K ad z o qq1 aqq1 (0 : Int32)) 7 (at_ro (i := 0) aqq1 (by decide) : ro qq1 = 7) (by decide) rfl rfl 1 rfl mw_code_X7_blame mw_ini_7 mw_ml_5_78 mw_inst_X7_blame mw_sel_X7_blame hd_X7_blame ⟨Nat.le_trans (by decide) hfr, Nat.le_trans (by decide) hlo⟩ rfl rfl rfl (Nat.le_of_ble_eq_true rfl) dX5_takeMore_218 (fun zz22 H locs hp24 G => ?_)
            obtain ⟨oo25, kk26⟩ := hp24
            have kk27 : KC z zz22 := KC.tr KC.rf (KT.c kk26)
            have h28 : tI zz22 0 5 = (tI z 0 5) := KF.i kk26 10 (rfl : ro 0 = 10) (by decide) rfl
            have h29 : tI zz22 5 7 = v17 := KF.i kk26 5 (rfl : ro 5 = 5) (by decide) e18.symm
            have h30 : tP zz22 5 0 = qq1 := KF.p kk26 eqq1.symm
            exact RET G ⟨oo25, kk27, h28⟩ dX5_takeMore_221
          · skip
            have b31 : iv 2 2147483647 v17 := le_r (Int32.not_lt.mp c19) (iv_lit (lo := 2) (hi := 2) 2 (by decide) (by decide)) (iv_full v17) (by decide)
            refine lv_aload_n E.1 E.2.1 dX5_takeMore_119 rfl (lv_at hl 2 rfl) ?_
            refine lv_iload_n E.1 E.2.1 dX5_takeMore_120 rfl (lv_at hl 0 rfl) ?_
            refine lv_iconst (v := 1) E.1 E.2.1 dX5_takeMore_121 (by decide) ?_
            refine t_vv E G hl (rr_takeOperator l D K ad z o r6 (1 : Int32)) 5 (rfl : ro 5 = 5) (by decide) rfl rfl 2 rfl mw_code_X5_takeOperator mw_ini_5 mw_ml_5_101 mw_inst_X5_takeOperator mw_sel_X5_takeOperator hd_X5_takeOperator ⟨Nat.le_trans (by decide) hfr, Nat.le_trans (by decide) hlo⟩ rfl rfl rfl (Nat.le_of_ble_eq_true rfl) dX5_takeMore_122 (fun zz32 H locs hp34 G => ?_)
            obtain ⟨oo35, kk36, h37⟩ := hp34
            have kk38 : KC z zz32 := KC.tr KC.rf kk36
            refine lv_goto (tgt := 221) E.1 E.2.1 dX5_takeMore_125 (by decide) ?_
            exact RET G ⟨oo35, kk38, (h37.trans rfl)⟩ dX5_takeMore_221
        · skip
          refine lv_iload_n E.1 E.2.1 dX5_takeMore_105 rfl (lv_at hl 1 rfl) ?_
          refine lv_bipush (v := 13) E.1 E.2.1 dX5_takeMore_106 (by decide) ?_
          refine lv_icmp_ne (tgt := 128) E.1 E.2.1 dX5_takeMore_108 (by decide) (fun c39 => ?_) (fun c39 => ?_)
          · skip
            refine lv_iload_n E.1 E.2.1 dX5_takeMore_128 rfl (lv_at hl 1 rfl) ?_
            refine lv_bipush (v := 22) E.1 E.2.1 dX5_takeMore_129 (by decide) ?_
            refine lv_icmp_ne (tgt := 156) E.1 E.2.1 dX5_takeMore_131 (by decide) (fun c40 => ?_) (fun c40 => ?_)
            · skip
              refine lv_iload_n E.1 E.2.1 dX5_takeMore_156 rfl (lv_at hl 1 rfl) ?_
              refine lv_bipush (v := 20) E.1 E.2.1 dX5_takeMore_157 (by decide) ?_
              refine lv_icmp_eq (tgt := 168) E.1 E.2.1 dX5_takeMore_159 (by decide) (fun c41 => ?_) (fun c41 => ?_)
              · skip
                have b42 : iv 20 20 v2 := iv_eq c41 (iv_lit (lo := 20) (hi := 20) 20 (by decide) (by decide))
                refine lv_aload_n E.1 E.2.1 dX5_takeMore_168 rfl (lv_at hl 2 rfl) ?_
                refine t_get E G 5 7 (rfl : ro 5 = 5) (C := RX5) (T := TX5) (N := 9) rfl (by decide) (by decide) (by decide) mw_fl_5_38 (fvl_i rfl) dX5_takeMore_169 ?_
                refine lv_topi (fun v43 e44 => ?_)
                refine lv_iconst (v := 1) E.1 E.2.1 dX5_takeMore_172 (by decide) ?_
                refine lv_icmp_eq (tgt := 213) E.1 E.2.1 dX5_takeMore_173 (by decide) (fun c45 => ?_) (fun c45 => ?_)
                · skip
                  have b46 : iv 1 1 v43 := iv_eq c45 (iv_lit (lo := 1) (hi := 1) 1 (by decide) (by decide))
                  refine lv_aload_n E.1 E.2.1 dX5_takeMore_213 rfl (lv_at hl 2 rfl) ?_
                  refine t_get E G 5 0 (rfl : ro 5 = 5) (C := RX5) (T := TX5) (N := 9) rfl (by decide) (by decide) (by decide) mw_fl_5_12 (fvl_d rfl) dX5_takeMore_214 ?_
                  rw [eqq1.symm]
                  refine lv_iconst (v := 0) E.1 E.2.1 dX5_takeMore_217 (by decide) ?_
                  refine t_vv E G hl (tp_blame l D K ad z o qq1 aqq1 (0 : Int32)) 7 (at_ro (i := 0) aqq1 (by decide) : ro qq1 = 7) (by decide) rfl rfl 1 rfl mw_code_X7_blame mw_ini_7 mw_ml_5_78 mw_inst_X7_blame mw_sel_X7_blame hd_X7_blame ⟨Nat.le_trans (by decide) hfr, Nat.le_trans (by decide) hlo⟩ rfl rfl rfl (Nat.le_of_ble_eq_true rfl) dX5_takeMore_218 (fun zz48 H locs hp50 G => ?_)
                  obtain ⟨oo51, kk52⟩ := hp50
                  have kk53 : KC z zz48 := KC.tr KC.rf (KT.c kk52)
                  have h54 : tI zz48 0 5 = (tI z 0 5) := KF.i kk52 10 (rfl : ro 0 = 10) (by decide) rfl
                  have h55 : tI zz48 5 7 = v43 := KF.i kk52 5 (rfl : ro 5 = 5) (by decide) e44.symm
                  have h56 : tP zz48 5 0 = qq1 := KF.p kk52 eqq1.symm
                  exact RET G ⟨oo51, kk53, h54⟩ dX5_takeMore_221
                · skip
                  refine lv_aload_n E.1 E.2.1 dX5_takeMore_176 rfl (lv_at hl 2 rfl) ?_
                  refine t_get E G 5 4 (rfl : ro 5 = 5) (C := RX5) (T := TX5) (N := 9) rfl (by decide) (by decide) (by decide) mw_fl_5_29 (fvl_i rfl) dX5_takeMore_177 ?_
                  refine lv_topi (fun v57 e58 => ?_)
                  refine lv_if_ne (tgt := 213) E.1 E.2.1 dX5_takeMore_180 (by decide) (fun c59 => ?_) (fun c59 => ?_)
                  · skip
                    refine lv_aload_n E.1 E.2.1 dX5_takeMore_213 rfl (lv_at hl 2 rfl) ?_
                    refine t_get E G 5 0 (rfl : ro 5 = 5) (C := RX5) (T := TX5) (N := 9) rfl (by decide) (by decide) (by decide) mw_fl_5_12 (fvl_d rfl) dX5_takeMore_214 ?_
                    rw [eqq1.symm]
                    refine lv_iconst (v := 0) E.1 E.2.1 dX5_takeMore_217 (by decide) ?_
                    refine t_vv E G hl (tp_blame l D K ad z o qq1 aqq1 (0 : Int32)) 7 (at_ro (i := 0) aqq1 (by decide) : ro qq1 = 7) (by decide) rfl rfl 1 rfl mw_code_X7_blame mw_ini_7 mw_ml_5_78 mw_inst_X7_blame mw_sel_X7_blame hd_X7_blame ⟨Nat.le_trans (by decide) hfr, Nat.le_trans (by decide) hlo⟩ rfl rfl rfl (Nat.le_of_ble_eq_true rfl) dX5_takeMore_218 (fun zz61 H locs hp63 G => ?_)
                    obtain ⟨oo64, kk65⟩ := hp63
                    have kk66 : KC z zz61 := KC.tr KC.rf (KT.c kk65)
                    have h67 : tI zz61 0 5 = (tI z 0 5) := KF.i kk65 10 (rfl : ro 0 = 10) (by decide) rfl
                    have h68 : tI zz61 5 7 = v43 := KF.i kk65 5 (rfl : ro 5 = 5) (by decide) e44.symm
                    have h69 : tI zz61 5 4 = v57 := KF.i kk65 5 (rfl : ro 5 = 5) (by decide) e58.symm
                    have h70 : tP zz61 5 0 = qq1 := KF.p kk65 eqq1.symm
                    exact RET G ⟨oo64, kk66, h67⟩ dX5_takeMore_221
                  · skip
                    have b71 : iv 0 0 v57 := iv_eq c59 (iv_lit (lo := 0) (hi := 0) 0 (by decide) (by decide))
                    refine lv_aload_n E.1 E.2.1 dX5_takeMore_183 rfl (lv_at hl 2 rfl) ?_
                    refine lv_iconst (v := 1) E.1 E.2.1 dX5_takeMore_184 (by decide) ?_
                    refine t_vv E G hl (rr_release l D K ad z o (1 : Int32)) 5 (rfl : ro 5 = 5) (by decide) rfl rfl 1 rfl mw_code_X5_release mw_ini_5 mw_ml_5_105 mw_inst_X5_release mw_sel_X5_release hd_X5_release ⟨Nat.le_trans (by decide) hfr, Nat.le_trans (by decide) hlo⟩ rfl rfl rfl (Nat.le_of_ble_eq_true rfl) dX5_takeMore_185 (fun zz72 H locs hp74 G => ?_)
                    obtain ⟨oo75, kk76, h77⟩ := hp74
                    have kk78 : KC z zz72 := KC.tr KC.rf kk76
                    refine lv_aload_n E.1 E.2.1 dX5_takeMore_188 rfl (lv_at hl 2 rfl) ?_
                    refine t_get E G 5 8 (rfl : ro 5 = 5) (C := RX5) (T := TX5) (N := 9) rfl (by decide) (by decide) (by decide) mw_fl_5_44 (fvl_d rfl) dX5_takeMore_189 ?_
                    obtain ⟨qq79, eqq79⟩ : ∃ q : Nat, q = tP zz72 5 8 := ⟨_, rfl⟩
                    have aqq79 : at_ 4 qq79 = true := by rw [eqq79]; exact oo75.p 5 8 (rfl : ro 5 = 5) (by decide)
                    rw [← eqq79]
                    refine t_vv E G hl (r_closeClause l D K ad zz72 oo75 qq79 aqq79) 4 (at_ro (i := 0) aqq79 (by decide) : ro qq79 = 4) (by decide) rfl rfl 0 rfl mw_code_X4_closeClause mw_ini_4 mw_ml_5_114 mw_inst_X4_closeClause mw_sel_X4_closeClause hd_X4_closeClause ⟨Nat.le_trans (by decide) hfr, Nat.le_trans (by decide) hlo⟩ rfl rfl rfl (Nat.le_of_ble_eq_true rfl) dX5_takeMore_192 (fun zz80 H locs hp82 G => ?_)
                    obtain ⟨oo83, kk84, h85⟩ := hp82
                    have kk86 : KC z zz80 := KC.tr kk78 kk84
                    refine lv_aload_n E.1 E.2.1 dX5_takeMore_195 rfl (lv_at hl 2 rfl) ?_
                    refine lv_iload_n E.1 E.2.1 dX5_takeMore_196 rfl (lv_at hl 1 rfl) ?_
                    refine lv_bipush (v := 20) E.1 E.2.1 dX5_takeMore_197 (by decide) ?_
                    refine lv_icmp_ne (tgt := 206) E.1 E.2.1 dX5_takeMore_199 (by decide) (fun h => absurd c41 h) (fun _ => ?_)
                    refine lv_iconst (v := 0) E.1 E.2.1 dX5_takeMore_202 (by decide) ?_
                    refine lv_goto (tgt := 207) E.1 E.2.1 dX5_takeMore_203 (by decide) ?_
                    refine t_puti E G 5 6 (rfl : ro 5 = 5) (C := RX5) (T := TX5) (N := 9) rfl (by decide) (by decide) (by decide) rfl rfl mw_fl_5_35 rfl dX5_takeMore_207 (fun H locs G => ?_)
                    obtain ⟨zz87, G, oo88, kk89, h90, h91⟩ : ∃ u : TS, mG D A s H locs (wd K ad u) ∧ Ok u ∧ KC z u ∧ tI u 0 5 = (tI z 0 5) ∧ tI u 5 6 = 0 := ⟨_, G, ok_i oo83 5 (rfl : ro 5 = 5) (iv_mono (iv_lit (lo := 0) (hi := 0) 0 (by decide) (by decide)) (by decide) (by decide)) (by decide), KC.tr kk86 (KC_i 5 (rfl : ro 5 = 5) (by decide)), (sI_k (h85.trans (h77.trans rfl)) (by decide)), sI_self⟩
                    refine lv_goto (tgt := 221) E.1 E.2.1 dX5_takeMore_210 (by decide) ?_
                    exact RET G ⟨oo88, kk89, h90⟩ dX5_takeMore_221
              · skip
                refine lv_iload_n E.1 E.2.1 dX5_takeMore_162 rfl (lv_at hl 1 rfl) ?_
                refine lv_bipush (v := 40) E.1 E.2.1 dX5_takeMore_163 (by decide) ?_
                refine lv_icmp_ne (tgt := 213) E.1 E.2.1 dX5_takeMore_165 (by decide) (fun c92 => ?_) (fun c92 => ?_)
                · skip
                  refine lv_aload_n E.1 E.2.1 dX5_takeMore_213 rfl (lv_at hl 2 rfl) ?_
                  refine t_get E G 5 0 (rfl : ro 5 = 5) (C := RX5) (T := TX5) (N := 9) rfl (by decide) (by decide) (by decide) mw_fl_5_12 (fvl_d rfl) dX5_takeMore_214 ?_
                  rw [eqq1.symm]
                  refine lv_iconst (v := 0) E.1 E.2.1 dX5_takeMore_217 (by decide) ?_
                  refine t_vv E G hl (tp_blame l D K ad z o qq1 aqq1 (0 : Int32)) 7 (at_ro (i := 0) aqq1 (by decide) : ro qq1 = 7) (by decide) rfl rfl 1 rfl mw_code_X7_blame mw_ini_7 mw_ml_5_78 mw_inst_X7_blame mw_sel_X7_blame hd_X7_blame ⟨Nat.le_trans (by decide) hfr, Nat.le_trans (by decide) hlo⟩ rfl rfl rfl (Nat.le_of_ble_eq_true rfl) dX5_takeMore_218 (fun zz94 H locs hp96 G => ?_)
                  obtain ⟨oo97, kk98⟩ := hp96
                  have kk99 : KC z zz94 := KC.tr KC.rf (KT.c kk98)
                  have h100 : tI zz94 0 5 = (tI z 0 5) := KF.i kk98 10 (rfl : ro 0 = 10) (by decide) rfl
                  have h101 : tP zz94 5 0 = qq1 := KF.p kk98 eqq1.symm
                  exact RET G ⟨oo97, kk99, h100⟩ dX5_takeMore_221
                · skip
                  have b102 : iv 40 40 v2 := iv_eq c92 (iv_lit (lo := 40) (hi := 40) 40 (by decide) (by decide))
                  refine lv_aload_n E.1 E.2.1 dX5_takeMore_168 rfl (lv_at hl 2 rfl) ?_
                  refine t_get E G 5 7 (rfl : ro 5 = 5) (C := RX5) (T := TX5) (N := 9) rfl (by decide) (by decide) (by decide) mw_fl_5_38 (fvl_i rfl) dX5_takeMore_169 ?_
                  refine lv_topi (fun v103 e104 => ?_)
                  refine lv_iconst (v := 1) E.1 E.2.1 dX5_takeMore_172 (by decide) ?_
                  refine lv_icmp_eq (tgt := 213) E.1 E.2.1 dX5_takeMore_173 (by decide) (fun c105 => ?_) (fun c105 => ?_)
                  · skip
                    have b106 : iv 1 1 v103 := iv_eq c105 (iv_lit (lo := 1) (hi := 1) 1 (by decide) (by decide))
                    refine lv_aload_n E.1 E.2.1 dX5_takeMore_213 rfl (lv_at hl 2 rfl) ?_
                    refine t_get E G 5 0 (rfl : ro 5 = 5) (C := RX5) (T := TX5) (N := 9) rfl (by decide) (by decide) (by decide) mw_fl_5_12 (fvl_d rfl) dX5_takeMore_214 ?_
                    rw [eqq1.symm]
                    refine lv_iconst (v := 0) E.1 E.2.1 dX5_takeMore_217 (by decide) ?_
                    refine t_vv E G hl (tp_blame l D K ad z o qq1 aqq1 (0 : Int32)) 7 (at_ro (i := 0) aqq1 (by decide) : ro qq1 = 7) (by decide) rfl rfl 1 rfl mw_code_X7_blame mw_ini_7 mw_ml_5_78 mw_inst_X7_blame mw_sel_X7_blame hd_X7_blame ⟨Nat.le_trans (by decide) hfr, Nat.le_trans (by decide) hlo⟩ rfl rfl rfl (Nat.le_of_ble_eq_true rfl) dX5_takeMore_218 (fun zz108 H locs hp110 G => ?_)
                    obtain ⟨oo111, kk112⟩ := hp110
                    have kk113 : KC z zz108 := KC.tr KC.rf (KT.c kk112)
                    have h114 : tI zz108 0 5 = (tI z 0 5) := KF.i kk112 10 (rfl : ro 0 = 10) (by decide) rfl
                    have h115 : tI zz108 5 7 = v103 := KF.i kk112 5 (rfl : ro 5 = 5) (by decide) e104.symm
                    have h116 : tP zz108 5 0 = qq1 := KF.p kk112 eqq1.symm
                    exact RET G ⟨oo111, kk113, h114⟩ dX5_takeMore_221
                  · skip
                    refine lv_aload_n E.1 E.2.1 dX5_takeMore_176 rfl (lv_at hl 2 rfl) ?_
                    refine t_get E G 5 4 (rfl : ro 5 = 5) (C := RX5) (T := TX5) (N := 9) rfl (by decide) (by decide) (by decide) mw_fl_5_29 (fvl_i rfl) dX5_takeMore_177 ?_
                    refine lv_topi (fun v117 e118 => ?_)
                    refine lv_if_ne (tgt := 213) E.1 E.2.1 dX5_takeMore_180 (by decide) (fun c119 => ?_) (fun c119 => ?_)
                    · skip
                      refine lv_aload_n E.1 E.2.1 dX5_takeMore_213 rfl (lv_at hl 2 rfl) ?_
                      refine t_get E G 5 0 (rfl : ro 5 = 5) (C := RX5) (T := TX5) (N := 9) rfl (by decide) (by decide) (by decide) mw_fl_5_12 (fvl_d rfl) dX5_takeMore_214 ?_
                      rw [eqq1.symm]
                      refine lv_iconst (v := 0) E.1 E.2.1 dX5_takeMore_217 (by decide) ?_
                      refine t_vv E G hl (tp_blame l D K ad z o qq1 aqq1 (0 : Int32)) 7 (at_ro (i := 0) aqq1 (by decide) : ro qq1 = 7) (by decide) rfl rfl 1 rfl mw_code_X7_blame mw_ini_7 mw_ml_5_78 mw_inst_X7_blame mw_sel_X7_blame hd_X7_blame ⟨Nat.le_trans (by decide) hfr, Nat.le_trans (by decide) hlo⟩ rfl rfl rfl (Nat.le_of_ble_eq_true rfl) dX5_takeMore_218 (fun zz121 H locs hp123 G => ?_)
                      obtain ⟨oo124, kk125⟩ := hp123
                      have kk126 : KC z zz121 := KC.tr KC.rf (KT.c kk125)
                      have h127 : tI zz121 0 5 = (tI z 0 5) := KF.i kk125 10 (rfl : ro 0 = 10) (by decide) rfl
                      have h128 : tI zz121 5 7 = v103 := KF.i kk125 5 (rfl : ro 5 = 5) (by decide) e104.symm
                      have h129 : tI zz121 5 4 = v117 := KF.i kk125 5 (rfl : ro 5 = 5) (by decide) e118.symm
                      have h130 : tP zz121 5 0 = qq1 := KF.p kk125 eqq1.symm
                      exact RET G ⟨oo124, kk126, h127⟩ dX5_takeMore_221
                    · skip
                      have b131 : iv 0 0 v117 := iv_eq c119 (iv_lit (lo := 0) (hi := 0) 0 (by decide) (by decide))
                      refine lv_aload_n E.1 E.2.1 dX5_takeMore_183 rfl (lv_at hl 2 rfl) ?_
                      refine lv_iconst (v := 1) E.1 E.2.1 dX5_takeMore_184 (by decide) ?_
                      refine t_vv E G hl (rr_release l D K ad z o (1 : Int32)) 5 (rfl : ro 5 = 5) (by decide) rfl rfl 1 rfl mw_code_X5_release mw_ini_5 mw_ml_5_105 mw_inst_X5_release mw_sel_X5_release hd_X5_release ⟨Nat.le_trans (by decide) hfr, Nat.le_trans (by decide) hlo⟩ rfl rfl rfl (Nat.le_of_ble_eq_true rfl) dX5_takeMore_185 (fun zz132 H locs hp134 G => ?_)
                      obtain ⟨oo135, kk136, h137⟩ := hp134
                      have kk138 : KC z zz132 := KC.tr KC.rf kk136
                      refine lv_aload_n E.1 E.2.1 dX5_takeMore_188 rfl (lv_at hl 2 rfl) ?_
                      refine t_get E G 5 8 (rfl : ro 5 = 5) (C := RX5) (T := TX5) (N := 9) rfl (by decide) (by decide) (by decide) mw_fl_5_44 (fvl_d rfl) dX5_takeMore_189 ?_
                      obtain ⟨qq139, eqq139⟩ : ∃ q : Nat, q = tP zz132 5 8 := ⟨_, rfl⟩
                      have aqq139 : at_ 4 qq139 = true := by rw [eqq139]; exact oo135.p 5 8 (rfl : ro 5 = 5) (by decide)
                      rw [← eqq139]
                      refine t_vv E G hl (r_closeClause l D K ad zz132 oo135 qq139 aqq139) 4 (at_ro (i := 0) aqq139 (by decide) : ro qq139 = 4) (by decide) rfl rfl 0 rfl mw_code_X4_closeClause mw_ini_4 mw_ml_5_114 mw_inst_X4_closeClause mw_sel_X4_closeClause hd_X4_closeClause ⟨Nat.le_trans (by decide) hfr, Nat.le_trans (by decide) hlo⟩ rfl rfl rfl (Nat.le_of_ble_eq_true rfl) dX5_takeMore_192 (fun zz140 H locs hp142 G => ?_)
                      obtain ⟨oo143, kk144, h145⟩ := hp142
                      have kk146 : KC z zz140 := KC.tr kk138 kk144
                      refine lv_aload_n E.1 E.2.1 dX5_takeMore_195 rfl (lv_at hl 2 rfl) ?_
                      refine lv_iload_n E.1 E.2.1 dX5_takeMore_196 rfl (lv_at hl 1 rfl) ?_
                      refine lv_bipush (v := 20) E.1 E.2.1 dX5_takeMore_197 (by decide) ?_
                      refine lv_icmp_ne (tgt := 206) E.1 E.2.1 dX5_takeMore_199 (by decide) (fun _ => ?_) (fun h => absurd h (ivne2 b102 (iv_lit (lo := 20) (hi := 20) 20 (by decide) (by decide)) (by decide)))
                      refine lv_iconst (v := 4) E.1 E.2.1 dX5_takeMore_206 (by decide) ?_
                      refine t_puti E G 5 6 (rfl : ro 5 = 5) (C := RX5) (T := TX5) (N := 9) rfl (by decide) (by decide) (by decide) rfl rfl mw_fl_5_35 rfl dX5_takeMore_207 (fun H locs G => ?_)
                      obtain ⟨zz147, G, oo148, kk149, h150, h151⟩ : ∃ u : TS, mG D A s H locs (wd K ad u) ∧ Ok u ∧ KC z u ∧ tI u 0 5 = (tI z 0 5) ∧ tI u 5 6 = 4 := ⟨_, G, ok_i oo143 5 (rfl : ro 5 = 5) (iv_mono (iv_lit (lo := 4) (hi := 4) 4 (by decide) (by decide)) (by decide) (by decide)) (by decide), KC.tr kk146 (KC_i 5 (rfl : ro 5 = 5) (by decide)), (sI_k (h145.trans (h137.trans rfl)) (by decide)), sI_self⟩
                      refine lv_goto (tgt := 221) E.1 E.2.1 dX5_takeMore_210 (by decide) ?_
                      exact RET G ⟨oo148, kk149, h150⟩ dX5_takeMore_221
            · skip
              have b152 : iv 22 22 v2 := iv_eq c40 (iv_lit (lo := 22) (hi := 22) 22 (by decide) (by decide))
              refine lv_aload_n E.1 E.2.1 dX5_takeMore_134 rfl (lv_at hl 2 rfl) ?_
              refine t_get E G 5 7 (rfl : ro 5 = 5) (C := RX5) (T := TX5) (N := 9) rfl (by decide) (by decide) (by decide) mw_fl_5_38 (fvl_i rfl) dX5_takeMore_135 ?_
              refine lv_topi (fun v153 e154 => ?_)
              refine lv_iconst (v := 2) E.1 E.2.1 dX5_takeMore_138 (by decide) ?_
              refine lv_icmp_lt (tgt := 156) E.1 E.2.1 dX5_takeMore_139 (by decide) (fun c155 => ?_) (fun c155 => ?_)
              · skip
                have b156 : iv (-2147483648) 1 v153 := lt_l c155 (iv_full v153) (iv_lit (lo := 2) (hi := 2) 2 (by decide) (by decide)) (by decide)
                refine lv_iload_n E.1 E.2.1 dX5_takeMore_156 rfl (lv_at hl 1 rfl) ?_
                refine lv_bipush (v := 20) E.1 E.2.1 dX5_takeMore_157 (by decide) ?_
                refine lv_icmp_eq (tgt := 168) E.1 E.2.1 dX5_takeMore_159 (by decide) (fun h => absurd h (ivne2 b152 (iv_lit (lo := 20) (hi := 20) 20 (by decide) (by decide)) (by decide))) (fun _ => ?_)
                refine lv_iload_n E.1 E.2.1 dX5_takeMore_162 rfl (lv_at hl 1 rfl) ?_
                refine lv_bipush (v := 40) E.1 E.2.1 dX5_takeMore_163 (by decide) ?_
                refine lv_icmp_ne (tgt := 213) E.1 E.2.1 dX5_takeMore_165 (by decide) (fun _ => ?_) (fun h => absurd h (ivne1 b152 (iv_lit (lo := 40) (hi := 40) 40 (by decide) (by decide)) (by decide)))
                refine lv_aload_n E.1 E.2.1 dX5_takeMore_213 rfl (lv_at hl 2 rfl) ?_
                refine t_get E G 5 0 (rfl : ro 5 = 5) (C := RX5) (T := TX5) (N := 9) rfl (by decide) (by decide) (by decide) mw_fl_5_12 (fvl_d rfl) dX5_takeMore_214 ?_
                rw [eqq1.symm]
                refine lv_iconst (v := 0) E.1 E.2.1 dX5_takeMore_217 (by decide) ?_
                refine t_vv E G hl (tp_blame l D K ad z o qq1 aqq1 (0 : Int32)) 7 (at_ro (i := 0) aqq1 (by decide) : ro qq1 = 7) (by decide) rfl rfl 1 rfl mw_code_X7_blame mw_ini_7 mw_ml_5_78 mw_inst_X7_blame mw_sel_X7_blame hd_X7_blame ⟨Nat.le_trans (by decide) hfr, Nat.le_trans (by decide) hlo⟩ rfl rfl rfl (Nat.le_of_ble_eq_true rfl) dX5_takeMore_218 (fun zz158 H locs hp160 G => ?_)
                obtain ⟨oo161, kk162⟩ := hp160
                have kk163 : KC z zz158 := KC.tr KC.rf (KT.c kk162)
                have h164 : tI zz158 0 5 = (tI z 0 5) := KF.i kk162 10 (rfl : ro 0 = 10) (by decide) rfl
                have h165 : tI zz158 5 7 = v153 := KF.i kk162 5 (rfl : ro 5 = 5) (by decide) e154.symm
                have h166 : tP zz158 5 0 = qq1 := KF.p kk162 eqq1.symm
                exact RET G ⟨oo161, kk163, h164⟩ dX5_takeMore_221
              · skip
                have b167 : iv 2 2147483647 v153 := le_r (Int32.not_lt.mp c155) (iv_lit (lo := 2) (hi := 2) 2 (by decide) (by decide)) (iv_full v153) (by decide)
                refine lv_aload_n E.1 E.2.1 dX5_takeMore_142 rfl (lv_at hl 2 rfl) ?_
                refine t_get E G 5 4 (rfl : ro 5 = 5) (C := RX5) (T := TX5) (N := 9) rfl (by decide) (by decide) (by decide) mw_fl_5_29 (fvl_i rfl) dX5_takeMore_143 ?_
                refine lv_topi (fun v168 e169 => ?_)
                refine lv_if_le (tgt := 156) E.1 E.2.1 dX5_takeMore_146 (by decide) (fun c170 => ?_) (fun c170 => ?_)
                · skip
                  have b171 : iv (-2147483648) 0 v168 := le_l c170 (iv_full v168) (iv_lit (lo := 0) (hi := 0) 0 (by decide) (by decide)) (by decide)
                  refine lv_iload_n E.1 E.2.1 dX5_takeMore_156 rfl (lv_at hl 1 rfl) ?_
                  refine lv_bipush (v := 20) E.1 E.2.1 dX5_takeMore_157 (by decide) ?_
                  refine lv_icmp_eq (tgt := 168) E.1 E.2.1 dX5_takeMore_159 (by decide) (fun h => absurd h (ivne2 b152 (iv_lit (lo := 20) (hi := 20) 20 (by decide) (by decide)) (by decide))) (fun _ => ?_)
                  refine lv_iload_n E.1 E.2.1 dX5_takeMore_162 rfl (lv_at hl 1 rfl) ?_
                  refine lv_bipush (v := 40) E.1 E.2.1 dX5_takeMore_163 (by decide) ?_
                  refine lv_icmp_ne (tgt := 213) E.1 E.2.1 dX5_takeMore_165 (by decide) (fun _ => ?_) (fun h => absurd h (ivne1 b152 (iv_lit (lo := 40) (hi := 40) 40 (by decide) (by decide)) (by decide)))
                  refine lv_aload_n E.1 E.2.1 dX5_takeMore_213 rfl (lv_at hl 2 rfl) ?_
                  refine t_get E G 5 0 (rfl : ro 5 = 5) (C := RX5) (T := TX5) (N := 9) rfl (by decide) (by decide) (by decide) mw_fl_5_12 (fvl_d rfl) dX5_takeMore_214 ?_
                  rw [eqq1.symm]
                  refine lv_iconst (v := 0) E.1 E.2.1 dX5_takeMore_217 (by decide) ?_
                  refine t_vv E G hl (tp_blame l D K ad z o qq1 aqq1 (0 : Int32)) 7 (at_ro (i := 0) aqq1 (by decide) : ro qq1 = 7) (by decide) rfl rfl 1 rfl mw_code_X7_blame mw_ini_7 mw_ml_5_78 mw_inst_X7_blame mw_sel_X7_blame hd_X7_blame ⟨Nat.le_trans (by decide) hfr, Nat.le_trans (by decide) hlo⟩ rfl rfl rfl (Nat.le_of_ble_eq_true rfl) dX5_takeMore_218 (fun zz173 H locs hp175 G => ?_)
                  obtain ⟨oo176, kk177⟩ := hp175
                  have kk178 : KC z zz173 := KC.tr KC.rf (KT.c kk177)
                  have h179 : tI zz173 0 5 = (tI z 0 5) := KF.i kk177 10 (rfl : ro 0 = 10) (by decide) rfl
                  have h180 : tI zz173 5 7 = v153 := KF.i kk177 5 (rfl : ro 5 = 5) (by decide) e154.symm
                  have h181 : tI zz173 5 4 = v168 := KF.i kk177 5 (rfl : ro 5 = 5) (by decide) e169.symm
                  have h182 : tP zz173 5 0 = qq1 := KF.p kk177 eqq1.symm
                  exact RET G ⟨oo176, kk178, h179⟩ dX5_takeMore_221
                · skip
                  have b183 : iv 1 2147483647 v168 := lt_r (Int32.not_le.mp c170) (iv_lit (lo := 0) (hi := 0) 0 (by decide) (by decide)) (iv_full v168) (by decide)
                  refine lv_aload_n E.1 E.2.1 dX5_takeMore_149 rfl (lv_at hl 2 rfl) ?_
                  refine t_vv E G hl (rr_closeBracket l D K ad z o) 5 (rfl : ro 5 = 5) (by decide) rfl rfl 0 rfl mw_code_X5_closeBracket mw_ini_5 mw_ml_5_111 mw_inst_X5_closeBracket mw_sel_X5_closeBracket hd_X5_closeBracket ⟨Nat.le_trans (by decide) hfr, Nat.le_trans (by decide) hlo⟩ rfl rfl rfl (Nat.le_of_ble_eq_true rfl) dX5_takeMore_150 (fun zz184 H locs hp186 G => ?_)
                  obtain ⟨oo187, kk188, h189⟩ := hp186
                  have kk190 : KC z zz184 := KC.tr KC.rf kk188
                  refine lv_goto (tgt := 221) E.1 E.2.1 dX5_takeMore_153 (by decide) ?_
                  exact RET G ⟨oo187, kk190, (h189.trans rfl)⟩ dX5_takeMore_221
          · skip
            have b191 : iv 13 13 v2 := iv_eq c39 (iv_lit (lo := 13) (hi := 13) 13 (by decide) (by decide))
            refine lv_aload_n E.1 E.2.1 dX5_takeMore_111 rfl (lv_at hl 2 rfl) ?_
            refine t_get E G 5 7 (rfl : ro 5 = 5) (C := RX5) (T := TX5) (N := 9) rfl (by decide) (by decide) (by decide) mw_fl_5_38 (fvl_i rfl) dX5_takeMore_112 ?_
            refine lv_topi (fun v192 e193 => ?_)
            refine lv_iconst (v := 2) E.1 E.2.1 dX5_takeMore_115 (by decide) ?_
            refine lv_icmp_lt (tgt := 128) E.1 E.2.1 dX5_takeMore_116 (by decide) (fun c194 => ?_) (fun c194 => ?_)
            · skip
              have b195 : iv (-2147483648) 1 v192 := lt_l c194 (iv_full v192) (iv_lit (lo := 2) (hi := 2) 2 (by decide) (by decide)) (by decide)
              refine lv_iload_n E.1 E.2.1 dX5_takeMore_128 rfl (lv_at hl 1 rfl) ?_
              refine lv_bipush (v := 22) E.1 E.2.1 dX5_takeMore_129 (by decide) ?_
              refine lv_icmp_ne (tgt := 156) E.1 E.2.1 dX5_takeMore_131 (by decide) (fun _ => ?_) (fun h => absurd h (ivne1 b191 (iv_lit (lo := 22) (hi := 22) 22 (by decide) (by decide)) (by decide)))
              refine lv_iload_n E.1 E.2.1 dX5_takeMore_156 rfl (lv_at hl 1 rfl) ?_
              refine lv_bipush (v := 20) E.1 E.2.1 dX5_takeMore_157 (by decide) ?_
              refine lv_icmp_eq (tgt := 168) E.1 E.2.1 dX5_takeMore_159 (by decide) (fun h => absurd h (ivne1 b191 (iv_lit (lo := 20) (hi := 20) 20 (by decide) (by decide)) (by decide))) (fun _ => ?_)
              refine lv_iload_n E.1 E.2.1 dX5_takeMore_162 rfl (lv_at hl 1 rfl) ?_
              refine lv_bipush (v := 40) E.1 E.2.1 dX5_takeMore_163 (by decide) ?_
              refine lv_icmp_ne (tgt := 213) E.1 E.2.1 dX5_takeMore_165 (by decide) (fun _ => ?_) (fun h => absurd h (ivne1 b191 (iv_lit (lo := 40) (hi := 40) 40 (by decide) (by decide)) (by decide)))
              refine lv_aload_n E.1 E.2.1 dX5_takeMore_213 rfl (lv_at hl 2 rfl) ?_
              refine t_get E G 5 0 (rfl : ro 5 = 5) (C := RX5) (T := TX5) (N := 9) rfl (by decide) (by decide) (by decide) mw_fl_5_12 (fvl_d rfl) dX5_takeMore_214 ?_
              rw [eqq1.symm]
              refine lv_iconst (v := 0) E.1 E.2.1 dX5_takeMore_217 (by decide) ?_
              refine t_vv E G hl (tp_blame l D K ad z o qq1 aqq1 (0 : Int32)) 7 (at_ro (i := 0) aqq1 (by decide) : ro qq1 = 7) (by decide) rfl rfl 1 rfl mw_code_X7_blame mw_ini_7 mw_ml_5_78 mw_inst_X7_blame mw_sel_X7_blame hd_X7_blame ⟨Nat.le_trans (by decide) hfr, Nat.le_trans (by decide) hlo⟩ rfl rfl rfl (Nat.le_of_ble_eq_true rfl) dX5_takeMore_218 (fun zz197 H locs hp199 G => ?_)
              obtain ⟨oo200, kk201⟩ := hp199
              have kk202 : KC z zz197 := KC.tr KC.rf (KT.c kk201)
              have h203 : tI zz197 0 5 = (tI z 0 5) := KF.i kk201 10 (rfl : ro 0 = 10) (by decide) rfl
              have h204 : tI zz197 5 7 = v192 := KF.i kk201 5 (rfl : ro 5 = 5) (by decide) e193.symm
              have h205 : tP zz197 5 0 = qq1 := KF.p kk201 eqq1.symm
              exact RET G ⟨oo200, kk202, h203⟩ dX5_takeMore_221
            · skip
              have b206 : iv 2 2147483647 v192 := le_r (Int32.not_lt.mp c194) (iv_lit (lo := 2) (hi := 2) 2 (by decide) (by decide)) (iv_full v192) (by decide)
              refine lv_aload_n E.1 E.2.1 dX5_takeMore_119 rfl (lv_at hl 2 rfl) ?_
              refine lv_iload_n E.1 E.2.1 dX5_takeMore_120 rfl (lv_at hl 0 rfl) ?_
              refine lv_iconst (v := 1) E.1 E.2.1 dX5_takeMore_121 (by decide) ?_
              refine t_vv E G hl (rr_takeOperator l D K ad z o r6 (1 : Int32)) 5 (rfl : ro 5 = 5) (by decide) rfl rfl 2 rfl mw_code_X5_takeOperator mw_ini_5 mw_ml_5_101 mw_inst_X5_takeOperator mw_sel_X5_takeOperator hd_X5_takeOperator ⟨Nat.le_trans (by decide) hfr, Nat.le_trans (by decide) hlo⟩ rfl rfl rfl (Nat.le_of_ble_eq_true rfl) dX5_takeMore_122 (fun zz207 H locs hp209 G => ?_)
              obtain ⟨oo210, kk211, h212⟩ := hp209
              have kk213 : KC z zz207 := KC.tr KC.rf kk211
              refine lv_goto (tgt := 221) E.1 E.2.1 dX5_takeMore_125 (by decide) ?_
              exact RET G ⟨oo210, kk213, (h212.trans rfl)⟩ dX5_takeMore_221
      · skip
        have b214 : iv 12 12 v2 := iv_eq c14 (iv_lit (lo := 12) (hi := 12) 12 (by decide) (by decide))
        refine lv_aload_n E.1 E.2.1 dX5_takeMore_72 rfl (lv_at hl 2 rfl) ?_
        refine t_get E G 5 7 (rfl : ro 5 = 5) (C := RX5) (T := TX5) (N := 9) rfl (by decide) (by decide) (by decide) mw_fl_5_38 (fvl_i rfl) dX5_takeMore_73 ?_
        refine lv_topi (fun v215 e216 => ?_)
        refine lv_if_ne (tgt := 99) E.1 E.2.1 dX5_takeMore_76 (by decide) (fun c217 => ?_) (fun c217 => ?_)
        · skip
          refine lv_iload_n E.1 E.2.1 dX5_takeMore_99 rfl (lv_at hl 1 rfl) ?_
          refine lv_bipush (v := 14) E.1 E.2.1 dX5_takeMore_100 (by decide) ?_
          refine lv_icmp_eq (tgt := 111) E.1 E.2.1 dX5_takeMore_102 (by decide) (fun h => absurd h (ivne1 b214 (iv_lit (lo := 14) (hi := 14) 14 (by decide) (by decide)) (by decide))) (fun _ => ?_)
          refine lv_iload_n E.1 E.2.1 dX5_takeMore_105 rfl (lv_at hl 1 rfl) ?_
          refine lv_bipush (v := 13) E.1 E.2.1 dX5_takeMore_106 (by decide) ?_
          refine lv_icmp_ne (tgt := 128) E.1 E.2.1 dX5_takeMore_108 (by decide) (fun _ => ?_) (fun h => absurd h (ivne1 b214 (iv_lit (lo := 13) (hi := 13) 13 (by decide) (by decide)) (by decide)))
          refine lv_iload_n E.1 E.2.1 dX5_takeMore_128 rfl (lv_at hl 1 rfl) ?_
          refine lv_bipush (v := 22) E.1 E.2.1 dX5_takeMore_129 (by decide) ?_
          refine lv_icmp_ne (tgt := 156) E.1 E.2.1 dX5_takeMore_131 (by decide) (fun _ => ?_) (fun h => absurd h (ivne1 b214 (iv_lit (lo := 22) (hi := 22) 22 (by decide) (by decide)) (by decide)))
          refine lv_iload_n E.1 E.2.1 dX5_takeMore_156 rfl (lv_at hl 1 rfl) ?_
          refine lv_bipush (v := 20) E.1 E.2.1 dX5_takeMore_157 (by decide) ?_
          refine lv_icmp_eq (tgt := 168) E.1 E.2.1 dX5_takeMore_159 (by decide) (fun h => absurd h (ivne1 b214 (iv_lit (lo := 20) (hi := 20) 20 (by decide) (by decide)) (by decide))) (fun _ => ?_)
          refine lv_iload_n E.1 E.2.1 dX5_takeMore_162 rfl (lv_at hl 1 rfl) ?_
          refine lv_bipush (v := 40) E.1 E.2.1 dX5_takeMore_163 (by decide) ?_
          refine lv_icmp_ne (tgt := 213) E.1 E.2.1 dX5_takeMore_165 (by decide) (fun _ => ?_) (fun h => absurd h (ivne1 b214 (iv_lit (lo := 40) (hi := 40) 40 (by decide) (by decide)) (by decide)))
          refine lv_aload_n E.1 E.2.1 dX5_takeMore_213 rfl (lv_at hl 2 rfl) ?_
          refine t_get E G 5 0 (rfl : ro 5 = 5) (C := RX5) (T := TX5) (N := 9) rfl (by decide) (by decide) (by decide) mw_fl_5_12 (fvl_d rfl) dX5_takeMore_214 ?_
          rw [eqq1.symm]
          refine lv_iconst (v := 0) E.1 E.2.1 dX5_takeMore_217 (by decide) ?_
          refine t_vv E G hl (tp_blame l D K ad z o qq1 aqq1 (0 : Int32)) 7 (at_ro (i := 0) aqq1 (by decide) : ro qq1 = 7) (by decide) rfl rfl 1 rfl mw_code_X7_blame mw_ini_7 mw_ml_5_78 mw_inst_X7_blame mw_sel_X7_blame hd_X7_blame ⟨Nat.le_trans (by decide) hfr, Nat.le_trans (by decide) hlo⟩ rfl rfl rfl (Nat.le_of_ble_eq_true rfl) dX5_takeMore_218 (fun zz219 H locs hp221 G => ?_)
          obtain ⟨oo222, kk223⟩ := hp221
          have kk224 : KC z zz219 := KC.tr KC.rf (KT.c kk223)
          have h225 : tI zz219 0 5 = (tI z 0 5) := KF.i kk223 10 (rfl : ro 0 = 10) (by decide) rfl
          have h226 : tI zz219 5 7 = v215 := KF.i kk223 5 (rfl : ro 5 = 5) (by decide) e216.symm
          have h227 : tP zz219 5 0 = qq1 := KF.p kk223 eqq1.symm
          exact RET G ⟨oo222, kk224, h225⟩ dX5_takeMore_221
        · skip
          have b228 : iv 0 0 v215 := iv_eq c217 (iv_lit (lo := 0) (hi := 0) 0 (by decide) (by decide))
          refine lv_aload_n E.1 E.2.1 dX5_takeMore_79 rfl (lv_at hl 2 rfl) ?_
          refine lv_iconst (v := 1) E.1 E.2.1 dX5_takeMore_80 (by decide) ?_
          refine t_vv E G hl (rr_release l D K ad z o (1 : Int32)) 5 (rfl : ro 5 = 5) (by decide) rfl rfl 1 rfl mw_code_X5_release mw_ini_5 mw_ml_5_105 mw_inst_X5_release mw_sel_X5_release hd_X5_release ⟨Nat.le_trans (by decide) hfr, Nat.le_trans (by decide) hlo⟩ rfl rfl rfl (Nat.le_of_ble_eq_true rfl) dX5_takeMore_81 (fun zz229 H locs hp231 G => ?_)
          obtain ⟨oo232, kk233, h234⟩ := hp231
          have kk235 : KC z zz229 := KC.tr KC.rf kk233
          refine lv_aload_n E.1 E.2.1 dX5_takeMore_84 rfl (lv_at hl 2 rfl) ?_
          refine t_get E G 5 8 (rfl : ro 5 = 5) (C := RX5) (T := TX5) (N := 9) rfl (by decide) (by decide) (by decide) mw_fl_5_44 (fvl_d rfl) dX5_takeMore_85 ?_
          obtain ⟨qq236, eqq236⟩ : ∃ q : Nat, q = tP zz229 5 8 := ⟨_, rfl⟩
          have aqq236 : at_ 4 qq236 = true := by rw [eqq236]; exact oo232.p 5 8 (rfl : ro 5 = 5) (by decide)
          rw [← eqq236]
          refine t_vv E G hl (r_beginTest l D K ad zz229 oo232 qq236 aqq236) 4 (at_ro (i := 0) aqq236 (by decide) : ro qq236 = 4) (by decide) rfl rfl 0 rfl mw_code_X4_beginTest mw_ini_4 mw_ml_5_108 mw_inst_X4_beginTest mw_sel_X4_beginTest hd_X4_beginTest ⟨Nat.le_trans (by decide) hfr, Nat.le_trans (by decide) hlo⟩ rfl rfl rfl (Nat.le_of_ble_eq_true rfl) dX5_takeMore_88 (fun zz237 H locs hp239 G => ?_)
          obtain ⟨oo240, kk241, h242⟩ := hp239
          have kk243 : KC z zz237 := KC.tr kk235 kk241
          refine lv_aload_n E.1 E.2.1 dX5_takeMore_91 rfl (lv_at hl 2 rfl) ?_
          refine lv_iconst (v := 1) E.1 E.2.1 dX5_takeMore_92 (by decide) ?_
          refine t_puti E G 5 6 (rfl : ro 5 = 5) (C := RX5) (T := TX5) (N := 9) rfl (by decide) (by decide) (by decide) rfl rfl mw_fl_5_35 rfl dX5_takeMore_93 (fun H locs G => ?_)
          obtain ⟨zz244, G, oo245, kk246, h247, h248⟩ : ∃ u : TS, mG D A s H locs (wd K ad u) ∧ Ok u ∧ KC z u ∧ tI u 0 5 = (tI z 0 5) ∧ tI u 5 6 = 1 := ⟨_, G, ok_i oo240 5 (rfl : ro 5 = 5) (iv_mono (iv_lit (lo := 1) (hi := 1) 1 (by decide) (by decide)) (by decide) (by decide)) (by decide), KC.tr kk243 (KC_i 5 (rfl : ro 5 = 5) (by decide)), (sI_k (h242.trans (h234.trans rfl)) (by decide)), sI_self⟩
          refine lv_goto (tgt := 221) E.1 E.2.1 dX5_takeMore_96 (by decide) ?_
          exact RET G ⟨oo245, kk246, h247⟩ dX5_takeMore_221
    · skip
      have b249 : iv 4 4 r6 := iv_eq c12 (iv_lit (lo := 4) (hi := 4) 4 (by decide) (by decide))
      refine lv_aload_n E.1 E.2.1 dX5_takeMore_40 rfl (lv_at hl 2 rfl) ?_
      refine t_get E G 5 7 (rfl : ro 5 = 5) (C := RX5) (T := TX5) (N := 9) rfl (by decide) (by decide) (by decide) mw_fl_5_38 (fvl_i rfl) dX5_takeMore_41 ?_
      refine lv_topi (fun v250 e251 => ?_)
      refine lv_iconst (v := 1) E.1 E.2.1 dX5_takeMore_44 (by decide) ?_
      refine lv_icmp_ne (tgt := 66) E.1 E.2.1 dX5_takeMore_45 (by decide) (fun c252 => ?_) (fun c252 => ?_)
      · skip
        refine lv_iload_n E.1 E.2.1 dX5_takeMore_66 rfl (lv_at hl 1 rfl) ?_
        refine lv_bipush (v := 12) E.1 E.2.1 dX5_takeMore_67 (by decide) ?_
        refine lv_icmp_ne (tgt := 99) E.1 E.2.1 dX5_takeMore_69 (by decide) (fun c253 => ?_) (fun c253 => ?_)
        · skip
          refine lv_iload_n E.1 E.2.1 dX5_takeMore_99 rfl (lv_at hl 1 rfl) ?_
          refine lv_bipush (v := 14) E.1 E.2.1 dX5_takeMore_100 (by decide) ?_
          refine lv_icmp_eq (tgt := 111) E.1 E.2.1 dX5_takeMore_102 (by decide) (fun c254 => ?_) (fun c254 => ?_)
          · skip
            have b255 : iv 14 14 v2 := iv_eq c254 (iv_lit (lo := 14) (hi := 14) 14 (by decide) (by decide))
            refine lv_aload_n E.1 E.2.1 dX5_takeMore_111 rfl (lv_at hl 2 rfl) ?_
            refine t_get E G 5 7 (rfl : ro 5 = 5) (C := RX5) (T := TX5) (N := 9) rfl (by decide) (by decide) (by decide) mw_fl_5_38 (fvl_i rfl) dX5_takeMore_112 ?_
            refine m_ci v250 e251.symm ?_
            refine lv_iconst (v := 2) E.1 E.2.1 dX5_takeMore_115 (by decide) ?_
            refine lv_icmp_lt (tgt := 128) E.1 E.2.1 dX5_takeMore_116 (by decide) (fun c256 => ?_) (fun c256 => ?_)
            · skip
              have b257 : iv (-2147483648) 1 v250 := lt_l c256 (iv_full v250) (iv_lit (lo := 2) (hi := 2) 2 (by decide) (by decide)) (by decide)
              refine lv_iload_n E.1 E.2.1 dX5_takeMore_128 rfl (lv_at hl 1 rfl) ?_
              refine lv_bipush (v := 22) E.1 E.2.1 dX5_takeMore_129 (by decide) ?_
              refine lv_icmp_ne (tgt := 156) E.1 E.2.1 dX5_takeMore_131 (by decide) (fun _ => ?_) (fun h => absurd h (ivne1 b255 (iv_lit (lo := 22) (hi := 22) 22 (by decide) (by decide)) (by decide)))
              refine lv_iload_n E.1 E.2.1 dX5_takeMore_156 rfl (lv_at hl 1 rfl) ?_
              refine lv_bipush (v := 20) E.1 E.2.1 dX5_takeMore_157 (by decide) ?_
              refine lv_icmp_eq (tgt := 168) E.1 E.2.1 dX5_takeMore_159 (by decide) (fun h => absurd h (ivne1 b255 (iv_lit (lo := 20) (hi := 20) 20 (by decide) (by decide)) (by decide))) (fun _ => ?_)
              refine lv_iload_n E.1 E.2.1 dX5_takeMore_162 rfl (lv_at hl 1 rfl) ?_
              refine lv_bipush (v := 40) E.1 E.2.1 dX5_takeMore_163 (by decide) ?_
              refine lv_icmp_ne (tgt := 213) E.1 E.2.1 dX5_takeMore_165 (by decide) (fun _ => ?_) (fun h => absurd h (ivne1 b255 (iv_lit (lo := 40) (hi := 40) 40 (by decide) (by decide)) (by decide)))
              refine lv_aload_n E.1 E.2.1 dX5_takeMore_213 rfl (lv_at hl 2 rfl) ?_
              refine t_get E G 5 0 (rfl : ro 5 = 5) (C := RX5) (T := TX5) (N := 9) rfl (by decide) (by decide) (by decide) mw_fl_5_12 (fvl_d rfl) dX5_takeMore_214 ?_
              rw [eqq1.symm]
              refine lv_iconst (v := 0) E.1 E.2.1 dX5_takeMore_217 (by decide) ?_
              refine t_vv E G hl (tp_blame l D K ad z o qq1 aqq1 (0 : Int32)) 7 (at_ro (i := 0) aqq1 (by decide) : ro qq1 = 7) (by decide) rfl rfl 1 rfl mw_code_X7_blame mw_ini_7 mw_ml_5_78 mw_inst_X7_blame mw_sel_X7_blame hd_X7_blame ⟨Nat.le_trans (by decide) hfr, Nat.le_trans (by decide) hlo⟩ rfl rfl rfl (Nat.le_of_ble_eq_true rfl) dX5_takeMore_218 (fun zz259 H locs hp261 G => ?_)
              obtain ⟨oo262, kk263⟩ := hp261
              have kk264 : KC z zz259 := KC.tr KC.rf (KT.c kk263)
              have h265 : tI zz259 0 5 = (tI z 0 5) := KF.i kk263 10 (rfl : ro 0 = 10) (by decide) rfl
              have h266 : tI zz259 5 7 = v250 := KF.i kk263 5 (rfl : ro 5 = 5) (by decide) e251.symm
              have h267 : tP zz259 5 0 = qq1 := KF.p kk263 eqq1.symm
              exact RET G ⟨oo262, kk264, h265⟩ dX5_takeMore_221
            · skip
              have b268 : iv 2 2147483647 v250 := le_r (Int32.not_lt.mp c256) (iv_lit (lo := 2) (hi := 2) 2 (by decide) (by decide)) (iv_full v250) (by decide)
              refine lv_aload_n E.1 E.2.1 dX5_takeMore_119 rfl (lv_at hl 2 rfl) ?_
              refine lv_iload_n E.1 E.2.1 dX5_takeMore_120 rfl (lv_at hl 0 rfl) ?_
              refine lv_iconst (v := 1) E.1 E.2.1 dX5_takeMore_121 (by decide) ?_
              refine t_vv E G hl (rr_takeOperator l D K ad z o r6 (1 : Int32)) 5 (rfl : ro 5 = 5) (by decide) rfl rfl 2 rfl mw_code_X5_takeOperator mw_ini_5 mw_ml_5_101 mw_inst_X5_takeOperator mw_sel_X5_takeOperator hd_X5_takeOperator ⟨Nat.le_trans (by decide) hfr, Nat.le_trans (by decide) hlo⟩ rfl rfl rfl (Nat.le_of_ble_eq_true rfl) dX5_takeMore_122 (fun zz269 H locs hp271 G => ?_)
              obtain ⟨oo272, kk273, h274⟩ := hp271
              have kk275 : KC z zz269 := KC.tr KC.rf kk273
              refine lv_goto (tgt := 221) E.1 E.2.1 dX5_takeMore_125 (by decide) ?_
              exact RET G ⟨oo272, kk275, (h274.trans rfl)⟩ dX5_takeMore_221
          · skip
            refine lv_iload_n E.1 E.2.1 dX5_takeMore_105 rfl (lv_at hl 1 rfl) ?_
            refine lv_bipush (v := 13) E.1 E.2.1 dX5_takeMore_106 (by decide) ?_
            refine lv_icmp_ne (tgt := 128) E.1 E.2.1 dX5_takeMore_108 (by decide) (fun c276 => ?_) (fun c276 => ?_)
            · skip
              refine lv_iload_n E.1 E.2.1 dX5_takeMore_128 rfl (lv_at hl 1 rfl) ?_
              refine lv_bipush (v := 22) E.1 E.2.1 dX5_takeMore_129 (by decide) ?_
              refine lv_icmp_ne (tgt := 156) E.1 E.2.1 dX5_takeMore_131 (by decide) (fun c277 => ?_) (fun c277 => ?_)
              · skip
                refine lv_iload_n E.1 E.2.1 dX5_takeMore_156 rfl (lv_at hl 1 rfl) ?_
                refine lv_bipush (v := 20) E.1 E.2.1 dX5_takeMore_157 (by decide) ?_
                refine lv_icmp_eq (tgt := 168) E.1 E.2.1 dX5_takeMore_159 (by decide) (fun c278 => ?_) (fun c278 => ?_)
                · skip
                  have b279 : iv 20 20 v2 := iv_eq c278 (iv_lit (lo := 20) (hi := 20) 20 (by decide) (by decide))
                  refine lv_aload_n E.1 E.2.1 dX5_takeMore_168 rfl (lv_at hl 2 rfl) ?_
                  refine t_get E G 5 7 (rfl : ro 5 = 5) (C := RX5) (T := TX5) (N := 9) rfl (by decide) (by decide) (by decide) mw_fl_5_38 (fvl_i rfl) dX5_takeMore_169 ?_
                  refine m_ci v250 e251.symm ?_
                  refine lv_iconst (v := 1) E.1 E.2.1 dX5_takeMore_172 (by decide) ?_
                  refine lv_icmp_eq (tgt := 213) E.1 E.2.1 dX5_takeMore_173 (by decide) (fun h => absurd h c252) (fun _ => ?_)
                  refine lv_aload_n E.1 E.2.1 dX5_takeMore_176 rfl (lv_at hl 2 rfl) ?_
                  refine t_get E G 5 4 (rfl : ro 5 = 5) (C := RX5) (T := TX5) (N := 9) rfl (by decide) (by decide) (by decide) mw_fl_5_29 (fvl_i rfl) dX5_takeMore_177 ?_
                  refine lv_topi (fun v280 e281 => ?_)
                  refine lv_if_ne (tgt := 213) E.1 E.2.1 dX5_takeMore_180 (by decide) (fun c282 => ?_) (fun c282 => ?_)
                  · skip
                    refine lv_aload_n E.1 E.2.1 dX5_takeMore_213 rfl (lv_at hl 2 rfl) ?_
                    refine t_get E G 5 0 (rfl : ro 5 = 5) (C := RX5) (T := TX5) (N := 9) rfl (by decide) (by decide) (by decide) mw_fl_5_12 (fvl_d rfl) dX5_takeMore_214 ?_
                    rw [eqq1.symm]
                    refine lv_iconst (v := 0) E.1 E.2.1 dX5_takeMore_217 (by decide) ?_
                    refine t_vv E G hl (tp_blame l D K ad z o qq1 aqq1 (0 : Int32)) 7 (at_ro (i := 0) aqq1 (by decide) : ro qq1 = 7) (by decide) rfl rfl 1 rfl mw_code_X7_blame mw_ini_7 mw_ml_5_78 mw_inst_X7_blame mw_sel_X7_blame hd_X7_blame ⟨Nat.le_trans (by decide) hfr, Nat.le_trans (by decide) hlo⟩ rfl rfl rfl (Nat.le_of_ble_eq_true rfl) dX5_takeMore_218 (fun zz284 H locs hp286 G => ?_)
                    obtain ⟨oo287, kk288⟩ := hp286
                    have kk289 : KC z zz284 := KC.tr KC.rf (KT.c kk288)
                    have h290 : tI zz284 0 5 = (tI z 0 5) := KF.i kk288 10 (rfl : ro 0 = 10) (by decide) rfl
                    have h291 : tI zz284 5 7 = v250 := KF.i kk288 5 (rfl : ro 5 = 5) (by decide) e251.symm
                    have h292 : tI zz284 5 4 = v280 := KF.i kk288 5 (rfl : ro 5 = 5) (by decide) e281.symm
                    have h293 : tP zz284 5 0 = qq1 := KF.p kk288 eqq1.symm
                    exact RET G ⟨oo287, kk289, h290⟩ dX5_takeMore_221
                  · skip
                    have b294 : iv 0 0 v280 := iv_eq c282 (iv_lit (lo := 0) (hi := 0) 0 (by decide) (by decide))
                    refine lv_aload_n E.1 E.2.1 dX5_takeMore_183 rfl (lv_at hl 2 rfl) ?_
                    refine lv_iconst (v := 1) E.1 E.2.1 dX5_takeMore_184 (by decide) ?_
                    refine t_vv E G hl (rr_release l D K ad z o (1 : Int32)) 5 (rfl : ro 5 = 5) (by decide) rfl rfl 1 rfl mw_code_X5_release mw_ini_5 mw_ml_5_105 mw_inst_X5_release mw_sel_X5_release hd_X5_release ⟨Nat.le_trans (by decide) hfr, Nat.le_trans (by decide) hlo⟩ rfl rfl rfl (Nat.le_of_ble_eq_true rfl) dX5_takeMore_185 (fun zz295 H locs hp297 G => ?_)
                    obtain ⟨oo298, kk299, h300⟩ := hp297
                    have kk301 : KC z zz295 := KC.tr KC.rf kk299
                    refine lv_aload_n E.1 E.2.1 dX5_takeMore_188 rfl (lv_at hl 2 rfl) ?_
                    refine t_get E G 5 8 (rfl : ro 5 = 5) (C := RX5) (T := TX5) (N := 9) rfl (by decide) (by decide) (by decide) mw_fl_5_44 (fvl_d rfl) dX5_takeMore_189 ?_
                    obtain ⟨qq302, eqq302⟩ : ∃ q : Nat, q = tP zz295 5 8 := ⟨_, rfl⟩
                    have aqq302 : at_ 4 qq302 = true := by rw [eqq302]; exact oo298.p 5 8 (rfl : ro 5 = 5) (by decide)
                    rw [← eqq302]
                    refine t_vv E G hl (r_closeClause l D K ad zz295 oo298 qq302 aqq302) 4 (at_ro (i := 0) aqq302 (by decide) : ro qq302 = 4) (by decide) rfl rfl 0 rfl mw_code_X4_closeClause mw_ini_4 mw_ml_5_114 mw_inst_X4_closeClause mw_sel_X4_closeClause hd_X4_closeClause ⟨Nat.le_trans (by decide) hfr, Nat.le_trans (by decide) hlo⟩ rfl rfl rfl (Nat.le_of_ble_eq_true rfl) dX5_takeMore_192 (fun zz303 H locs hp305 G => ?_)
                    obtain ⟨oo306, kk307, h308⟩ := hp305
                    have kk309 : KC z zz303 := KC.tr kk301 kk307
                    refine lv_aload_n E.1 E.2.1 dX5_takeMore_195 rfl (lv_at hl 2 rfl) ?_
                    refine lv_iload_n E.1 E.2.1 dX5_takeMore_196 rfl (lv_at hl 1 rfl) ?_
                    refine lv_bipush (v := 20) E.1 E.2.1 dX5_takeMore_197 (by decide) ?_
                    refine lv_icmp_ne (tgt := 206) E.1 E.2.1 dX5_takeMore_199 (by decide) (fun h => absurd c278 h) (fun _ => ?_)
                    refine lv_iconst (v := 0) E.1 E.2.1 dX5_takeMore_202 (by decide) ?_
                    refine lv_goto (tgt := 207) E.1 E.2.1 dX5_takeMore_203 (by decide) ?_
                    refine t_puti E G 5 6 (rfl : ro 5 = 5) (C := RX5) (T := TX5) (N := 9) rfl (by decide) (by decide) (by decide) rfl rfl mw_fl_5_35 rfl dX5_takeMore_207 (fun H locs G => ?_)
                    obtain ⟨zz310, G, oo311, kk312, h313, h314⟩ : ∃ u : TS, mG D A s H locs (wd K ad u) ∧ Ok u ∧ KC z u ∧ tI u 0 5 = (tI z 0 5) ∧ tI u 5 6 = 0 := ⟨_, G, ok_i oo306 5 (rfl : ro 5 = 5) (iv_mono (iv_lit (lo := 0) (hi := 0) 0 (by decide) (by decide)) (by decide) (by decide)) (by decide), KC.tr kk309 (KC_i 5 (rfl : ro 5 = 5) (by decide)), (sI_k (h308.trans (h300.trans rfl)) (by decide)), sI_self⟩
                    refine lv_goto (tgt := 221) E.1 E.2.1 dX5_takeMore_210 (by decide) ?_
                    exact RET G ⟨oo311, kk312, h313⟩ dX5_takeMore_221
                · skip
                  refine lv_iload_n E.1 E.2.1 dX5_takeMore_162 rfl (lv_at hl 1 rfl) ?_
                  refine lv_bipush (v := 40) E.1 E.2.1 dX5_takeMore_163 (by decide) ?_
                  refine lv_icmp_ne (tgt := 213) E.1 E.2.1 dX5_takeMore_165 (by decide) (fun c315 => ?_) (fun c315 => ?_)
                  · skip
                    refine lv_aload_n E.1 E.2.1 dX5_takeMore_213 rfl (lv_at hl 2 rfl) ?_
                    refine t_get E G 5 0 (rfl : ro 5 = 5) (C := RX5) (T := TX5) (N := 9) rfl (by decide) (by decide) (by decide) mw_fl_5_12 (fvl_d rfl) dX5_takeMore_214 ?_
                    rw [eqq1.symm]
                    refine lv_iconst (v := 0) E.1 E.2.1 dX5_takeMore_217 (by decide) ?_
                    refine t_vv E G hl (tp_blame l D K ad z o qq1 aqq1 (0 : Int32)) 7 (at_ro (i := 0) aqq1 (by decide) : ro qq1 = 7) (by decide) rfl rfl 1 rfl mw_code_X7_blame mw_ini_7 mw_ml_5_78 mw_inst_X7_blame mw_sel_X7_blame hd_X7_blame ⟨Nat.le_trans (by decide) hfr, Nat.le_trans (by decide) hlo⟩ rfl rfl rfl (Nat.le_of_ble_eq_true rfl) dX5_takeMore_218 (fun zz317 H locs hp319 G => ?_)
                    obtain ⟨oo320, kk321⟩ := hp319
                    have kk322 : KC z zz317 := KC.tr KC.rf (KT.c kk321)
                    have h323 : tI zz317 0 5 = (tI z 0 5) := KF.i kk321 10 (rfl : ro 0 = 10) (by decide) rfl
                    have h324 : tI zz317 5 7 = v250 := KF.i kk321 5 (rfl : ro 5 = 5) (by decide) e251.symm
                    have h325 : tP zz317 5 0 = qq1 := KF.p kk321 eqq1.symm
                    exact RET G ⟨oo320, kk322, h323⟩ dX5_takeMore_221
                  · skip
                    have b326 : iv 40 40 v2 := iv_eq c315 (iv_lit (lo := 40) (hi := 40) 40 (by decide) (by decide))
                    refine lv_aload_n E.1 E.2.1 dX5_takeMore_168 rfl (lv_at hl 2 rfl) ?_
                    refine t_get E G 5 7 (rfl : ro 5 = 5) (C := RX5) (T := TX5) (N := 9) rfl (by decide) (by decide) (by decide) mw_fl_5_38 (fvl_i rfl) dX5_takeMore_169 ?_
                    refine m_ci v250 e251.symm ?_
                    refine lv_iconst (v := 1) E.1 E.2.1 dX5_takeMore_172 (by decide) ?_
                    refine lv_icmp_eq (tgt := 213) E.1 E.2.1 dX5_takeMore_173 (by decide) (fun h => absurd h c252) (fun _ => ?_)
                    refine lv_aload_n E.1 E.2.1 dX5_takeMore_176 rfl (lv_at hl 2 rfl) ?_
                    refine t_get E G 5 4 (rfl : ro 5 = 5) (C := RX5) (T := TX5) (N := 9) rfl (by decide) (by decide) (by decide) mw_fl_5_29 (fvl_i rfl) dX5_takeMore_177 ?_
                    refine lv_topi (fun v327 e328 => ?_)
                    refine lv_if_ne (tgt := 213) E.1 E.2.1 dX5_takeMore_180 (by decide) (fun c329 => ?_) (fun c329 => ?_)
                    · skip
                      refine lv_aload_n E.1 E.2.1 dX5_takeMore_213 rfl (lv_at hl 2 rfl) ?_
                      refine t_get E G 5 0 (rfl : ro 5 = 5) (C := RX5) (T := TX5) (N := 9) rfl (by decide) (by decide) (by decide) mw_fl_5_12 (fvl_d rfl) dX5_takeMore_214 ?_
                      rw [eqq1.symm]
                      refine lv_iconst (v := 0) E.1 E.2.1 dX5_takeMore_217 (by decide) ?_
                      refine t_vv E G hl (tp_blame l D K ad z o qq1 aqq1 (0 : Int32)) 7 (at_ro (i := 0) aqq1 (by decide) : ro qq1 = 7) (by decide) rfl rfl 1 rfl mw_code_X7_blame mw_ini_7 mw_ml_5_78 mw_inst_X7_blame mw_sel_X7_blame hd_X7_blame ⟨Nat.le_trans (by decide) hfr, Nat.le_trans (by decide) hlo⟩ rfl rfl rfl (Nat.le_of_ble_eq_true rfl) dX5_takeMore_218 (fun zz331 H locs hp333 G => ?_)
                      obtain ⟨oo334, kk335⟩ := hp333
                      have kk336 : KC z zz331 := KC.tr KC.rf (KT.c kk335)
                      have h337 : tI zz331 0 5 = (tI z 0 5) := KF.i kk335 10 (rfl : ro 0 = 10) (by decide) rfl
                      have h338 : tI zz331 5 7 = v250 := KF.i kk335 5 (rfl : ro 5 = 5) (by decide) e251.symm
                      have h339 : tI zz331 5 4 = v327 := KF.i kk335 5 (rfl : ro 5 = 5) (by decide) e328.symm
                      have h340 : tP zz331 5 0 = qq1 := KF.p kk335 eqq1.symm
                      exact RET G ⟨oo334, kk336, h337⟩ dX5_takeMore_221
                    · skip
                      have b341 : iv 0 0 v327 := iv_eq c329 (iv_lit (lo := 0) (hi := 0) 0 (by decide) (by decide))
                      refine lv_aload_n E.1 E.2.1 dX5_takeMore_183 rfl (lv_at hl 2 rfl) ?_
                      refine lv_iconst (v := 1) E.1 E.2.1 dX5_takeMore_184 (by decide) ?_
                      refine t_vv E G hl (rr_release l D K ad z o (1 : Int32)) 5 (rfl : ro 5 = 5) (by decide) rfl rfl 1 rfl mw_code_X5_release mw_ini_5 mw_ml_5_105 mw_inst_X5_release mw_sel_X5_release hd_X5_release ⟨Nat.le_trans (by decide) hfr, Nat.le_trans (by decide) hlo⟩ rfl rfl rfl (Nat.le_of_ble_eq_true rfl) dX5_takeMore_185 (fun zz342 H locs hp344 G => ?_)
                      obtain ⟨oo345, kk346, h347⟩ := hp344
                      have kk348 : KC z zz342 := KC.tr KC.rf kk346
                      refine lv_aload_n E.1 E.2.1 dX5_takeMore_188 rfl (lv_at hl 2 rfl) ?_
                      refine t_get E G 5 8 (rfl : ro 5 = 5) (C := RX5) (T := TX5) (N := 9) rfl (by decide) (by decide) (by decide) mw_fl_5_44 (fvl_d rfl) dX5_takeMore_189 ?_
                      obtain ⟨qq349, eqq349⟩ : ∃ q : Nat, q = tP zz342 5 8 := ⟨_, rfl⟩
                      have aqq349 : at_ 4 qq349 = true := by rw [eqq349]; exact oo345.p 5 8 (rfl : ro 5 = 5) (by decide)
                      rw [← eqq349]
                      refine t_vv E G hl (r_closeClause l D K ad zz342 oo345 qq349 aqq349) 4 (at_ro (i := 0) aqq349 (by decide) : ro qq349 = 4) (by decide) rfl rfl 0 rfl mw_code_X4_closeClause mw_ini_4 mw_ml_5_114 mw_inst_X4_closeClause mw_sel_X4_closeClause hd_X4_closeClause ⟨Nat.le_trans (by decide) hfr, Nat.le_trans (by decide) hlo⟩ rfl rfl rfl (Nat.le_of_ble_eq_true rfl) dX5_takeMore_192 (fun zz350 H locs hp352 G => ?_)
                      obtain ⟨oo353, kk354, h355⟩ := hp352
                      have kk356 : KC z zz350 := KC.tr kk348 kk354
                      refine lv_aload_n E.1 E.2.1 dX5_takeMore_195 rfl (lv_at hl 2 rfl) ?_
                      refine lv_iload_n E.1 E.2.1 dX5_takeMore_196 rfl (lv_at hl 1 rfl) ?_
                      refine lv_bipush (v := 20) E.1 E.2.1 dX5_takeMore_197 (by decide) ?_
                      refine lv_icmp_ne (tgt := 206) E.1 E.2.1 dX5_takeMore_199 (by decide) (fun _ => ?_) (fun h => absurd h (ivne2 b326 (iv_lit (lo := 20) (hi := 20) 20 (by decide) (by decide)) (by decide)))
                      refine lv_iconst (v := 4) E.1 E.2.1 dX5_takeMore_206 (by decide) ?_
                      refine t_puti E G 5 6 (rfl : ro 5 = 5) (C := RX5) (T := TX5) (N := 9) rfl (by decide) (by decide) (by decide) rfl rfl mw_fl_5_35 rfl dX5_takeMore_207 (fun H locs G => ?_)
                      obtain ⟨zz357, G, oo358, kk359, h360, h361⟩ : ∃ u : TS, mG D A s H locs (wd K ad u) ∧ Ok u ∧ KC z u ∧ tI u 0 5 = (tI z 0 5) ∧ tI u 5 6 = 4 := ⟨_, G, ok_i oo353 5 (rfl : ro 5 = 5) (iv_mono (iv_lit (lo := 4) (hi := 4) 4 (by decide) (by decide)) (by decide) (by decide)) (by decide), KC.tr kk356 (KC_i 5 (rfl : ro 5 = 5) (by decide)), (sI_k (h355.trans (h347.trans rfl)) (by decide)), sI_self⟩
                      refine lv_goto (tgt := 221) E.1 E.2.1 dX5_takeMore_210 (by decide) ?_
                      exact RET G ⟨oo358, kk359, h360⟩ dX5_takeMore_221
              · skip
                have b362 : iv 22 22 v2 := iv_eq c277 (iv_lit (lo := 22) (hi := 22) 22 (by decide) (by decide))
                refine lv_aload_n E.1 E.2.1 dX5_takeMore_134 rfl (lv_at hl 2 rfl) ?_
                refine t_get E G 5 7 (rfl : ro 5 = 5) (C := RX5) (T := TX5) (N := 9) rfl (by decide) (by decide) (by decide) mw_fl_5_38 (fvl_i rfl) dX5_takeMore_135 ?_
                refine m_ci v250 e251.symm ?_
                refine lv_iconst (v := 2) E.1 E.2.1 dX5_takeMore_138 (by decide) ?_
                refine lv_icmp_lt (tgt := 156) E.1 E.2.1 dX5_takeMore_139 (by decide) (fun c363 => ?_) (fun c363 => ?_)
                · skip
                  have b364 : iv (-2147483648) 1 v250 := lt_l c363 (iv_full v250) (iv_lit (lo := 2) (hi := 2) 2 (by decide) (by decide)) (by decide)
                  refine lv_iload_n E.1 E.2.1 dX5_takeMore_156 rfl (lv_at hl 1 rfl) ?_
                  refine lv_bipush (v := 20) E.1 E.2.1 dX5_takeMore_157 (by decide) ?_
                  refine lv_icmp_eq (tgt := 168) E.1 E.2.1 dX5_takeMore_159 (by decide) (fun h => absurd h (ivne2 b362 (iv_lit (lo := 20) (hi := 20) 20 (by decide) (by decide)) (by decide))) (fun _ => ?_)
                  refine lv_iload_n E.1 E.2.1 dX5_takeMore_162 rfl (lv_at hl 1 rfl) ?_
                  refine lv_bipush (v := 40) E.1 E.2.1 dX5_takeMore_163 (by decide) ?_
                  refine lv_icmp_ne (tgt := 213) E.1 E.2.1 dX5_takeMore_165 (by decide) (fun _ => ?_) (fun h => absurd h (ivne1 b362 (iv_lit (lo := 40) (hi := 40) 40 (by decide) (by decide)) (by decide)))
                  refine lv_aload_n E.1 E.2.1 dX5_takeMore_213 rfl (lv_at hl 2 rfl) ?_
                  refine t_get E G 5 0 (rfl : ro 5 = 5) (C := RX5) (T := TX5) (N := 9) rfl (by decide) (by decide) (by decide) mw_fl_5_12 (fvl_d rfl) dX5_takeMore_214 ?_
                  rw [eqq1.symm]
                  refine lv_iconst (v := 0) E.1 E.2.1 dX5_takeMore_217 (by decide) ?_
                  refine t_vv E G hl (tp_blame l D K ad z o qq1 aqq1 (0 : Int32)) 7 (at_ro (i := 0) aqq1 (by decide) : ro qq1 = 7) (by decide) rfl rfl 1 rfl mw_code_X7_blame mw_ini_7 mw_ml_5_78 mw_inst_X7_blame mw_sel_X7_blame hd_X7_blame ⟨Nat.le_trans (by decide) hfr, Nat.le_trans (by decide) hlo⟩ rfl rfl rfl (Nat.le_of_ble_eq_true rfl) dX5_takeMore_218 (fun zz366 H locs hp368 G => ?_)
                  obtain ⟨oo369, kk370⟩ := hp368
                  have kk371 : KC z zz366 := KC.tr KC.rf (KT.c kk370)
                  have h372 : tI zz366 0 5 = (tI z 0 5) := KF.i kk370 10 (rfl : ro 0 = 10) (by decide) rfl
                  have h373 : tI zz366 5 7 = v250 := KF.i kk370 5 (rfl : ro 5 = 5) (by decide) e251.symm
                  have h374 : tP zz366 5 0 = qq1 := KF.p kk370 eqq1.symm
                  exact RET G ⟨oo369, kk371, h372⟩ dX5_takeMore_221
                · skip
                  have b375 : iv 2 2147483647 v250 := le_r (Int32.not_lt.mp c363) (iv_lit (lo := 2) (hi := 2) 2 (by decide) (by decide)) (iv_full v250) (by decide)
                  refine lv_aload_n E.1 E.2.1 dX5_takeMore_142 rfl (lv_at hl 2 rfl) ?_
                  refine t_get E G 5 4 (rfl : ro 5 = 5) (C := RX5) (T := TX5) (N := 9) rfl (by decide) (by decide) (by decide) mw_fl_5_29 (fvl_i rfl) dX5_takeMore_143 ?_
                  refine lv_topi (fun v376 e377 => ?_)
                  refine lv_if_le (tgt := 156) E.1 E.2.1 dX5_takeMore_146 (by decide) (fun c378 => ?_) (fun c378 => ?_)
                  · skip
                    have b379 : iv (-2147483648) 0 v376 := le_l c378 (iv_full v376) (iv_lit (lo := 0) (hi := 0) 0 (by decide) (by decide)) (by decide)
                    refine lv_iload_n E.1 E.2.1 dX5_takeMore_156 rfl (lv_at hl 1 rfl) ?_
                    refine lv_bipush (v := 20) E.1 E.2.1 dX5_takeMore_157 (by decide) ?_
                    refine lv_icmp_eq (tgt := 168) E.1 E.2.1 dX5_takeMore_159 (by decide) (fun h => absurd h (ivne2 b362 (iv_lit (lo := 20) (hi := 20) 20 (by decide) (by decide)) (by decide))) (fun _ => ?_)
                    refine lv_iload_n E.1 E.2.1 dX5_takeMore_162 rfl (lv_at hl 1 rfl) ?_
                    refine lv_bipush (v := 40) E.1 E.2.1 dX5_takeMore_163 (by decide) ?_
                    refine lv_icmp_ne (tgt := 213) E.1 E.2.1 dX5_takeMore_165 (by decide) (fun _ => ?_) (fun h => absurd h (ivne1 b362 (iv_lit (lo := 40) (hi := 40) 40 (by decide) (by decide)) (by decide)))
                    refine lv_aload_n E.1 E.2.1 dX5_takeMore_213 rfl (lv_at hl 2 rfl) ?_
                    refine t_get E G 5 0 (rfl : ro 5 = 5) (C := RX5) (T := TX5) (N := 9) rfl (by decide) (by decide) (by decide) mw_fl_5_12 (fvl_d rfl) dX5_takeMore_214 ?_
                    rw [eqq1.symm]
                    refine lv_iconst (v := 0) E.1 E.2.1 dX5_takeMore_217 (by decide) ?_
                    refine t_vv E G hl (tp_blame l D K ad z o qq1 aqq1 (0 : Int32)) 7 (at_ro (i := 0) aqq1 (by decide) : ro qq1 = 7) (by decide) rfl rfl 1 rfl mw_code_X7_blame mw_ini_7 mw_ml_5_78 mw_inst_X7_blame mw_sel_X7_blame hd_X7_blame ⟨Nat.le_trans (by decide) hfr, Nat.le_trans (by decide) hlo⟩ rfl rfl rfl (Nat.le_of_ble_eq_true rfl) dX5_takeMore_218 (fun zz381 H locs hp383 G => ?_)
                    obtain ⟨oo384, kk385⟩ := hp383
                    have kk386 : KC z zz381 := KC.tr KC.rf (KT.c kk385)
                    have h387 : tI zz381 0 5 = (tI z 0 5) := KF.i kk385 10 (rfl : ro 0 = 10) (by decide) rfl
                    have h388 : tI zz381 5 7 = v250 := KF.i kk385 5 (rfl : ro 5 = 5) (by decide) e251.symm
                    have h389 : tI zz381 5 4 = v376 := KF.i kk385 5 (rfl : ro 5 = 5) (by decide) e377.symm
                    have h390 : tP zz381 5 0 = qq1 := KF.p kk385 eqq1.symm
                    exact RET G ⟨oo384, kk386, h387⟩ dX5_takeMore_221
                  · skip
                    have b391 : iv 1 2147483647 v376 := lt_r (Int32.not_le.mp c378) (iv_lit (lo := 0) (hi := 0) 0 (by decide) (by decide)) (iv_full v376) (by decide)
                    refine lv_aload_n E.1 E.2.1 dX5_takeMore_149 rfl (lv_at hl 2 rfl) ?_
                    refine t_vv E G hl (rr_closeBracket l D K ad z o) 5 (rfl : ro 5 = 5) (by decide) rfl rfl 0 rfl mw_code_X5_closeBracket mw_ini_5 mw_ml_5_111 mw_inst_X5_closeBracket mw_sel_X5_closeBracket hd_X5_closeBracket ⟨Nat.le_trans (by decide) hfr, Nat.le_trans (by decide) hlo⟩ rfl rfl rfl (Nat.le_of_ble_eq_true rfl) dX5_takeMore_150 (fun zz392 H locs hp394 G => ?_)
                    obtain ⟨oo395, kk396, h397⟩ := hp394
                    have kk398 : KC z zz392 := KC.tr KC.rf kk396
                    refine lv_goto (tgt := 221) E.1 E.2.1 dX5_takeMore_153 (by decide) ?_
                    exact RET G ⟨oo395, kk398, (h397.trans rfl)⟩ dX5_takeMore_221
            · skip
              have b399 : iv 13 13 v2 := iv_eq c276 (iv_lit (lo := 13) (hi := 13) 13 (by decide) (by decide))
              refine lv_aload_n E.1 E.2.1 dX5_takeMore_111 rfl (lv_at hl 2 rfl) ?_
              refine t_get E G 5 7 (rfl : ro 5 = 5) (C := RX5) (T := TX5) (N := 9) rfl (by decide) (by decide) (by decide) mw_fl_5_38 (fvl_i rfl) dX5_takeMore_112 ?_
              refine m_ci v250 e251.symm ?_
              refine lv_iconst (v := 2) E.1 E.2.1 dX5_takeMore_115 (by decide) ?_
              refine lv_icmp_lt (tgt := 128) E.1 E.2.1 dX5_takeMore_116 (by decide) (fun c400 => ?_) (fun c400 => ?_)
              · skip
                have b401 : iv (-2147483648) 1 v250 := lt_l c400 (iv_full v250) (iv_lit (lo := 2) (hi := 2) 2 (by decide) (by decide)) (by decide)
                refine lv_iload_n E.1 E.2.1 dX5_takeMore_128 rfl (lv_at hl 1 rfl) ?_
                refine lv_bipush (v := 22) E.1 E.2.1 dX5_takeMore_129 (by decide) ?_
                refine lv_icmp_ne (tgt := 156) E.1 E.2.1 dX5_takeMore_131 (by decide) (fun _ => ?_) (fun h => absurd h (ivne1 b399 (iv_lit (lo := 22) (hi := 22) 22 (by decide) (by decide)) (by decide)))
                refine lv_iload_n E.1 E.2.1 dX5_takeMore_156 rfl (lv_at hl 1 rfl) ?_
                refine lv_bipush (v := 20) E.1 E.2.1 dX5_takeMore_157 (by decide) ?_
                refine lv_icmp_eq (tgt := 168) E.1 E.2.1 dX5_takeMore_159 (by decide) (fun h => absurd h (ivne1 b399 (iv_lit (lo := 20) (hi := 20) 20 (by decide) (by decide)) (by decide))) (fun _ => ?_)
                refine lv_iload_n E.1 E.2.1 dX5_takeMore_162 rfl (lv_at hl 1 rfl) ?_
                refine lv_bipush (v := 40) E.1 E.2.1 dX5_takeMore_163 (by decide) ?_
                refine lv_icmp_ne (tgt := 213) E.1 E.2.1 dX5_takeMore_165 (by decide) (fun _ => ?_) (fun h => absurd h (ivne1 b399 (iv_lit (lo := 40) (hi := 40) 40 (by decide) (by decide)) (by decide)))
                refine lv_aload_n E.1 E.2.1 dX5_takeMore_213 rfl (lv_at hl 2 rfl) ?_
                refine t_get E G 5 0 (rfl : ro 5 = 5) (C := RX5) (T := TX5) (N := 9) rfl (by decide) (by decide) (by decide) mw_fl_5_12 (fvl_d rfl) dX5_takeMore_214 ?_
                rw [eqq1.symm]
                refine lv_iconst (v := 0) E.1 E.2.1 dX5_takeMore_217 (by decide) ?_
                refine t_vv E G hl (tp_blame l D K ad z o qq1 aqq1 (0 : Int32)) 7 (at_ro (i := 0) aqq1 (by decide) : ro qq1 = 7) (by decide) rfl rfl 1 rfl mw_code_X7_blame mw_ini_7 mw_ml_5_78 mw_inst_X7_blame mw_sel_X7_blame hd_X7_blame ⟨Nat.le_trans (by decide) hfr, Nat.le_trans (by decide) hlo⟩ rfl rfl rfl (Nat.le_of_ble_eq_true rfl) dX5_takeMore_218 (fun zz403 H locs hp405 G => ?_)
                obtain ⟨oo406, kk407⟩ := hp405
                have kk408 : KC z zz403 := KC.tr KC.rf (KT.c kk407)
                have h409 : tI zz403 0 5 = (tI z 0 5) := KF.i kk407 10 (rfl : ro 0 = 10) (by decide) rfl
                have h410 : tI zz403 5 7 = v250 := KF.i kk407 5 (rfl : ro 5 = 5) (by decide) e251.symm
                have h411 : tP zz403 5 0 = qq1 := KF.p kk407 eqq1.symm
                exact RET G ⟨oo406, kk408, h409⟩ dX5_takeMore_221
              · skip
                have b412 : iv 2 2147483647 v250 := le_r (Int32.not_lt.mp c400) (iv_lit (lo := 2) (hi := 2) 2 (by decide) (by decide)) (iv_full v250) (by decide)
                refine lv_aload_n E.1 E.2.1 dX5_takeMore_119 rfl (lv_at hl 2 rfl) ?_
                refine lv_iload_n E.1 E.2.1 dX5_takeMore_120 rfl (lv_at hl 0 rfl) ?_
                refine lv_iconst (v := 1) E.1 E.2.1 dX5_takeMore_121 (by decide) ?_
                refine t_vv E G hl (rr_takeOperator l D K ad z o r6 (1 : Int32)) 5 (rfl : ro 5 = 5) (by decide) rfl rfl 2 rfl mw_code_X5_takeOperator mw_ini_5 mw_ml_5_101 mw_inst_X5_takeOperator mw_sel_X5_takeOperator hd_X5_takeOperator ⟨Nat.le_trans (by decide) hfr, Nat.le_trans (by decide) hlo⟩ rfl rfl rfl (Nat.le_of_ble_eq_true rfl) dX5_takeMore_122 (fun zz413 H locs hp415 G => ?_)
                obtain ⟨oo416, kk417, h418⟩ := hp415
                have kk419 : KC z zz413 := KC.tr KC.rf kk417
                refine lv_goto (tgt := 221) E.1 E.2.1 dX5_takeMore_125 (by decide) ?_
                exact RET G ⟨oo416, kk419, (h418.trans rfl)⟩ dX5_takeMore_221
        · skip
          have b420 : iv 12 12 v2 := iv_eq c253 (iv_lit (lo := 12) (hi := 12) 12 (by decide) (by decide))
          refine lv_aload_n E.1 E.2.1 dX5_takeMore_72 rfl (lv_at hl 2 rfl) ?_
          refine t_get E G 5 7 (rfl : ro 5 = 5) (C := RX5) (T := TX5) (N := 9) rfl (by decide) (by decide) (by decide) mw_fl_5_38 (fvl_i rfl) dX5_takeMore_73 ?_
          refine m_ci v250 e251.symm ?_
          refine lv_if_ne (tgt := 99) E.1 E.2.1 dX5_takeMore_76 (by decide) (fun c421 => ?_) (fun c421 => ?_)
          · skip
            refine lv_iload_n E.1 E.2.1 dX5_takeMore_99 rfl (lv_at hl 1 rfl) ?_
            refine lv_bipush (v := 14) E.1 E.2.1 dX5_takeMore_100 (by decide) ?_
            refine lv_icmp_eq (tgt := 111) E.1 E.2.1 dX5_takeMore_102 (by decide) (fun h => absurd h (ivne1 b420 (iv_lit (lo := 14) (hi := 14) 14 (by decide) (by decide)) (by decide))) (fun _ => ?_)
            refine lv_iload_n E.1 E.2.1 dX5_takeMore_105 rfl (lv_at hl 1 rfl) ?_
            refine lv_bipush (v := 13) E.1 E.2.1 dX5_takeMore_106 (by decide) ?_
            refine lv_icmp_ne (tgt := 128) E.1 E.2.1 dX5_takeMore_108 (by decide) (fun _ => ?_) (fun h => absurd h (ivne1 b420 (iv_lit (lo := 13) (hi := 13) 13 (by decide) (by decide)) (by decide)))
            refine lv_iload_n E.1 E.2.1 dX5_takeMore_128 rfl (lv_at hl 1 rfl) ?_
            refine lv_bipush (v := 22) E.1 E.2.1 dX5_takeMore_129 (by decide) ?_
            refine lv_icmp_ne (tgt := 156) E.1 E.2.1 dX5_takeMore_131 (by decide) (fun _ => ?_) (fun h => absurd h (ivne1 b420 (iv_lit (lo := 22) (hi := 22) 22 (by decide) (by decide)) (by decide)))
            refine lv_iload_n E.1 E.2.1 dX5_takeMore_156 rfl (lv_at hl 1 rfl) ?_
            refine lv_bipush (v := 20) E.1 E.2.1 dX5_takeMore_157 (by decide) ?_
            refine lv_icmp_eq (tgt := 168) E.1 E.2.1 dX5_takeMore_159 (by decide) (fun h => absurd h (ivne1 b420 (iv_lit (lo := 20) (hi := 20) 20 (by decide) (by decide)) (by decide))) (fun _ => ?_)
            refine lv_iload_n E.1 E.2.1 dX5_takeMore_162 rfl (lv_at hl 1 rfl) ?_
            refine lv_bipush (v := 40) E.1 E.2.1 dX5_takeMore_163 (by decide) ?_
            refine lv_icmp_ne (tgt := 213) E.1 E.2.1 dX5_takeMore_165 (by decide) (fun _ => ?_) (fun h => absurd h (ivne1 b420 (iv_lit (lo := 40) (hi := 40) 40 (by decide) (by decide)) (by decide)))
            refine lv_aload_n E.1 E.2.1 dX5_takeMore_213 rfl (lv_at hl 2 rfl) ?_
            refine t_get E G 5 0 (rfl : ro 5 = 5) (C := RX5) (T := TX5) (N := 9) rfl (by decide) (by decide) (by decide) mw_fl_5_12 (fvl_d rfl) dX5_takeMore_214 ?_
            rw [eqq1.symm]
            refine lv_iconst (v := 0) E.1 E.2.1 dX5_takeMore_217 (by decide) ?_
            refine t_vv E G hl (tp_blame l D K ad z o qq1 aqq1 (0 : Int32)) 7 (at_ro (i := 0) aqq1 (by decide) : ro qq1 = 7) (by decide) rfl rfl 1 rfl mw_code_X7_blame mw_ini_7 mw_ml_5_78 mw_inst_X7_blame mw_sel_X7_blame hd_X7_blame ⟨Nat.le_trans (by decide) hfr, Nat.le_trans (by decide) hlo⟩ rfl rfl rfl (Nat.le_of_ble_eq_true rfl) dX5_takeMore_218 (fun zz423 H locs hp425 G => ?_)
            obtain ⟨oo426, kk427⟩ := hp425
            have kk428 : KC z zz423 := KC.tr KC.rf (KT.c kk427)
            have h429 : tI zz423 0 5 = (tI z 0 5) := KF.i kk427 10 (rfl : ro 0 = 10) (by decide) rfl
            have h430 : tI zz423 5 7 = v250 := KF.i kk427 5 (rfl : ro 5 = 5) (by decide) e251.symm
            have h431 : tP zz423 5 0 = qq1 := KF.p kk427 eqq1.symm
            exact RET G ⟨oo426, kk428, h429⟩ dX5_takeMore_221
          · skip
            have b432 : iv 0 0 v250 := iv_eq c421 (iv_lit (lo := 0) (hi := 0) 0 (by decide) (by decide))
            refine lv_aload_n E.1 E.2.1 dX5_takeMore_79 rfl (lv_at hl 2 rfl) ?_
            refine lv_iconst (v := 1) E.1 E.2.1 dX5_takeMore_80 (by decide) ?_
            refine t_vv E G hl (rr_release l D K ad z o (1 : Int32)) 5 (rfl : ro 5 = 5) (by decide) rfl rfl 1 rfl mw_code_X5_release mw_ini_5 mw_ml_5_105 mw_inst_X5_release mw_sel_X5_release hd_X5_release ⟨Nat.le_trans (by decide) hfr, Nat.le_trans (by decide) hlo⟩ rfl rfl rfl (Nat.le_of_ble_eq_true rfl) dX5_takeMore_81 (fun zz433 H locs hp435 G => ?_)
            obtain ⟨oo436, kk437, h438⟩ := hp435
            have kk439 : KC z zz433 := KC.tr KC.rf kk437
            refine lv_aload_n E.1 E.2.1 dX5_takeMore_84 rfl (lv_at hl 2 rfl) ?_
            refine t_get E G 5 8 (rfl : ro 5 = 5) (C := RX5) (T := TX5) (N := 9) rfl (by decide) (by decide) (by decide) mw_fl_5_44 (fvl_d rfl) dX5_takeMore_85 ?_
            obtain ⟨qq440, eqq440⟩ : ∃ q : Nat, q = tP zz433 5 8 := ⟨_, rfl⟩
            have aqq440 : at_ 4 qq440 = true := by rw [eqq440]; exact oo436.p 5 8 (rfl : ro 5 = 5) (by decide)
            rw [← eqq440]
            refine t_vv E G hl (r_beginTest l D K ad zz433 oo436 qq440 aqq440) 4 (at_ro (i := 0) aqq440 (by decide) : ro qq440 = 4) (by decide) rfl rfl 0 rfl mw_code_X4_beginTest mw_ini_4 mw_ml_5_108 mw_inst_X4_beginTest mw_sel_X4_beginTest hd_X4_beginTest ⟨Nat.le_trans (by decide) hfr, Nat.le_trans (by decide) hlo⟩ rfl rfl rfl (Nat.le_of_ble_eq_true rfl) dX5_takeMore_88 (fun zz441 H locs hp443 G => ?_)
            obtain ⟨oo444, kk445, h446⟩ := hp443
            have kk447 : KC z zz441 := KC.tr kk439 kk445
            refine lv_aload_n E.1 E.2.1 dX5_takeMore_91 rfl (lv_at hl 2 rfl) ?_
            refine lv_iconst (v := 1) E.1 E.2.1 dX5_takeMore_92 (by decide) ?_
            refine t_puti E G 5 6 (rfl : ro 5 = 5) (C := RX5) (T := TX5) (N := 9) rfl (by decide) (by decide) (by decide) rfl rfl mw_fl_5_35 rfl dX5_takeMore_93 (fun H locs G => ?_)
            obtain ⟨zz448, G, oo449, kk450, h451, h452⟩ : ∃ u : TS, mG D A s H locs (wd K ad u) ∧ Ok u ∧ KC z u ∧ tI u 0 5 = (tI z 0 5) ∧ tI u 5 6 = 1 := ⟨_, G, ok_i oo444 5 (rfl : ro 5 = 5) (iv_mono (iv_lit (lo := 1) (hi := 1) 1 (by decide) (by decide)) (by decide) (by decide)) (by decide), KC.tr kk447 (KC_i 5 (rfl : ro 5 = 5) (by decide)), (sI_k (h446.trans (h438.trans rfl)) (by decide)), sI_self⟩
            refine lv_goto (tgt := 221) E.1 E.2.1 dX5_takeMore_96 (by decide) ?_
            exact RET G ⟨oo449, kk450, h451⟩ dX5_takeMore_221
      · skip
        have b453 : iv 1 1 v250 := iv_eq c252 (iv_lit (lo := 1) (hi := 1) 1 (by decide) (by decide))
        refine lv_aload_n E.1 E.2.1 dX5_takeMore_48 rfl (lv_at hl 2 rfl) ?_
        refine t_vv E G hl (rr_takePart l D K ad z o) 5 (rfl : ro 5 = 5) (by decide) rfl rfl 0 rfl mw_code_X5_takePart mw_ini_5 mw_ml_5_91 mw_inst_X5_takePart mw_sel_X5_takePart hd_X5_takePart ⟨Nat.le_trans (by decide) hfr, Nat.le_trans (by decide) hlo⟩ rfl rfl rfl (Nat.le_of_ble_eq_true rfl) dX5_takeMore_49 (fun zz454 H locs hp456 G => ?_)
        obtain ⟨oo457, kk458, h459⟩ := hp456
        have kk460 : KC z zz454 := KC.tr KC.rf kk458
        refine lv_aload_n E.1 E.2.1 dX5_takeMore_52 rfl (lv_at hl 2 rfl) ?_
        refine lv_iload_n E.1 E.2.1 dX5_takeMore_53 rfl (lv_at hl 0 rfl) ?_
        refine lv_iconst (v := 2) E.1 E.2.1 dX5_takeMore_54 (by decide) ?_
        refine t_vv E G hl (rr_takeOperator l D K ad zz454 oo457 r6 (2 : Int32)) 5 (rfl : ro 5 = 5) (by decide) rfl rfl 2 rfl mw_code_X5_takeOperator mw_ini_5 mw_ml_5_101 mw_inst_X5_takeOperator mw_sel_X5_takeOperator hd_X5_takeOperator ⟨Nat.le_trans (by decide) hfr, Nat.le_trans (by decide) hlo⟩ rfl rfl rfl (Nat.le_of_ble_eq_true rfl) dX5_takeMore_55 (fun zz461 H locs hp463 G => ?_)
        obtain ⟨oo464, kk465, h466⟩ := hp463
        have kk467 : KC z zz461 := KC.tr kk460 kk465
        refine lv_aload_n E.1 E.2.1 dX5_takeMore_58 rfl (lv_at hl 2 rfl) ?_
        refine lv_iconst (v := 2) E.1 E.2.1 dX5_takeMore_59 (by decide) ?_
        refine t_puti E G 5 7 (rfl : ro 5 = 5) (C := RX5) (T := TX5) (N := 9) rfl (by decide) (by decide) (by decide) rfl rfl mw_fl_5_38 rfl dX5_takeMore_60 (fun H locs G => ?_)
        obtain ⟨zz468, G, oo469, kk470, h471, h472⟩ : ∃ u : TS, mG D A s H locs (wd K ad u) ∧ Ok u ∧ KC z u ∧ tI u 0 5 = (tI z 0 5) ∧ tI u 5 7 = 2 := ⟨_, G, ok_i oo464 5 (rfl : ro 5 = 5) (iv_mono (iv_lit (lo := 2) (hi := 2) 2 (by decide) (by decide)) (by decide) (by decide)) (by decide), KC.tr kk467 (KC_i 5 (rfl : ro 5 = 5) (by decide)), (sI_k (h466.trans (h459.trans rfl)) (by decide)), sI_self⟩
        refine lv_goto (tgt := 221) E.1 E.2.1 dX5_takeMore_63 (by decide) ?_
        exact RET G ⟨oo469, kk470, h471⟩ dX5_takeMore_221
  · skip
    have b473 : iv 5 6 r6 := le_r (Int32.not_lt.mp c10) (iv_lit (lo := 5) (hi := 5) 5 (by decide) (by decide)) b8 (by decide)
    refine lv_aload_n E.1 E.2.1 dX5_takeMore_18 rfl (lv_at hl 2 rfl) ?_
    refine t_get E G 5 7 (rfl : ro 5 = 5) (C := RX5) (T := TX5) (N := 9) rfl (by decide) (by decide) (by decide) mw_fl_5_38 (fvl_i rfl) dX5_takeMore_19 ?_
    refine lv_topi (fun v474 e475 => ?_)
    refine lv_iconst (v := 3) E.1 E.2.1 dX5_takeMore_22 (by decide) ?_
    refine lv_icmp_eq (tgt := 35) E.1 E.2.1 dX5_takeMore_23 (by decide) (fun c476 => ?_) (fun c476 => ?_)
    · skip
      have b477 : iv 3 3 v474 := iv_eq c476 (iv_lit (lo := 3) (hi := 3) 3 (by decide) (by decide))
      refine lv_iload_n E.1 E.2.1 dX5_takeMore_35 rfl (lv_at hl 0 rfl) ?_
      refine lv_iconst (v := 4) E.1 E.2.1 dX5_takeMore_36 (by decide) ?_
      refine lv_icmp_ne (tgt := 66) E.1 E.2.1 dX5_takeMore_37 (by decide) (fun _ => ?_) (fun h => absurd h (ivne2 b473 (iv_lit (lo := 4) (hi := 4) 4 (by decide) (by decide)) (by decide)))
      refine lv_iload_n E.1 E.2.1 dX5_takeMore_66 rfl (lv_at hl 1 rfl) ?_
      refine lv_bipush (v := 12) E.1 E.2.1 dX5_takeMore_67 (by decide) ?_
      refine lv_icmp_ne (tgt := 99) E.1 E.2.1 dX5_takeMore_69 (by decide) (fun c478 => ?_) (fun c478 => ?_)
      · skip
        refine lv_iload_n E.1 E.2.1 dX5_takeMore_99 rfl (lv_at hl 1 rfl) ?_
        refine lv_bipush (v := 14) E.1 E.2.1 dX5_takeMore_100 (by decide) ?_
        refine lv_icmp_eq (tgt := 111) E.1 E.2.1 dX5_takeMore_102 (by decide) (fun c479 => ?_) (fun c479 => ?_)
        · skip
          have b480 : iv 14 14 v2 := iv_eq c479 (iv_lit (lo := 14) (hi := 14) 14 (by decide) (by decide))
          refine lv_aload_n E.1 E.2.1 dX5_takeMore_111 rfl (lv_at hl 2 rfl) ?_
          refine t_get E G 5 7 (rfl : ro 5 = 5) (C := RX5) (T := TX5) (N := 9) rfl (by decide) (by decide) (by decide) mw_fl_5_38 (fvl_i rfl) dX5_takeMore_112 ?_
          refine m_ci v474 e475.symm ?_
          refine lv_iconst (v := 2) E.1 E.2.1 dX5_takeMore_115 (by decide) ?_
          refine lv_icmp_lt (tgt := 128) E.1 E.2.1 dX5_takeMore_116 (by decide) (fun h => absurd h (ivnlt b477 (iv_lit (lo := 2) (hi := 2) 2 (by decide) (by decide)) (by decide))) (fun _ => ?_)
          refine lv_aload_n E.1 E.2.1 dX5_takeMore_119 rfl (lv_at hl 2 rfl) ?_
          refine lv_iload_n E.1 E.2.1 dX5_takeMore_120 rfl (lv_at hl 0 rfl) ?_
          refine lv_iconst (v := 1) E.1 E.2.1 dX5_takeMore_121 (by decide) ?_
          refine t_vv E G hl (rr_takeOperator l D K ad z o r6 (1 : Int32)) 5 (rfl : ro 5 = 5) (by decide) rfl rfl 2 rfl mw_code_X5_takeOperator mw_ini_5 mw_ml_5_101 mw_inst_X5_takeOperator mw_sel_X5_takeOperator hd_X5_takeOperator ⟨Nat.le_trans (by decide) hfr, Nat.le_trans (by decide) hlo⟩ rfl rfl rfl (Nat.le_of_ble_eq_true rfl) dX5_takeMore_122 (fun zz481 H locs hp483 G => ?_)
          obtain ⟨oo484, kk485, h486⟩ := hp483
          have kk487 : KC z zz481 := KC.tr KC.rf kk485
          refine lv_goto (tgt := 221) E.1 E.2.1 dX5_takeMore_125 (by decide) ?_
          exact RET G ⟨oo484, kk487, (h486.trans rfl)⟩ dX5_takeMore_221
        · skip
          refine lv_iload_n E.1 E.2.1 dX5_takeMore_105 rfl (lv_at hl 1 rfl) ?_
          refine lv_bipush (v := 13) E.1 E.2.1 dX5_takeMore_106 (by decide) ?_
          refine lv_icmp_ne (tgt := 128) E.1 E.2.1 dX5_takeMore_108 (by decide) (fun c488 => ?_) (fun c488 => ?_)
          · skip
            refine lv_iload_n E.1 E.2.1 dX5_takeMore_128 rfl (lv_at hl 1 rfl) ?_
            refine lv_bipush (v := 22) E.1 E.2.1 dX5_takeMore_129 (by decide) ?_
            refine lv_icmp_ne (tgt := 156) E.1 E.2.1 dX5_takeMore_131 (by decide) (fun c489 => ?_) (fun c489 => ?_)
            · skip
              refine lv_iload_n E.1 E.2.1 dX5_takeMore_156 rfl (lv_at hl 1 rfl) ?_
              refine lv_bipush (v := 20) E.1 E.2.1 dX5_takeMore_157 (by decide) ?_
              refine lv_icmp_eq (tgt := 168) E.1 E.2.1 dX5_takeMore_159 (by decide) (fun c490 => ?_) (fun c490 => ?_)
              · skip
                have b491 : iv 20 20 v2 := iv_eq c490 (iv_lit (lo := 20) (hi := 20) 20 (by decide) (by decide))
                refine lv_aload_n E.1 E.2.1 dX5_takeMore_168 rfl (lv_at hl 2 rfl) ?_
                refine t_get E G 5 7 (rfl : ro 5 = 5) (C := RX5) (T := TX5) (N := 9) rfl (by decide) (by decide) (by decide) mw_fl_5_38 (fvl_i rfl) dX5_takeMore_169 ?_
                refine m_ci v474 e475.symm ?_
                refine lv_iconst (v := 1) E.1 E.2.1 dX5_takeMore_172 (by decide) ?_
                refine lv_icmp_eq (tgt := 213) E.1 E.2.1 dX5_takeMore_173 (by decide) (fun h => absurd h (ivne2 b477 (iv_lit (lo := 1) (hi := 1) 1 (by decide) (by decide)) (by decide))) (fun _ => ?_)
                refine lv_aload_n E.1 E.2.1 dX5_takeMore_176 rfl (lv_at hl 2 rfl) ?_
                refine t_get E G 5 4 (rfl : ro 5 = 5) (C := RX5) (T := TX5) (N := 9) rfl (by decide) (by decide) (by decide) mw_fl_5_29 (fvl_i rfl) dX5_takeMore_177 ?_
                refine lv_topi (fun v492 e493 => ?_)
                refine lv_if_ne (tgt := 213) E.1 E.2.1 dX5_takeMore_180 (by decide) (fun c494 => ?_) (fun c494 => ?_)
                · skip
                  refine lv_aload_n E.1 E.2.1 dX5_takeMore_213 rfl (lv_at hl 2 rfl) ?_
                  refine t_get E G 5 0 (rfl : ro 5 = 5) (C := RX5) (T := TX5) (N := 9) rfl (by decide) (by decide) (by decide) mw_fl_5_12 (fvl_d rfl) dX5_takeMore_214 ?_
                  rw [eqq1.symm]
                  refine lv_iconst (v := 0) E.1 E.2.1 dX5_takeMore_217 (by decide) ?_
                  refine t_vv E G hl (tp_blame l D K ad z o qq1 aqq1 (0 : Int32)) 7 (at_ro (i := 0) aqq1 (by decide) : ro qq1 = 7) (by decide) rfl rfl 1 rfl mw_code_X7_blame mw_ini_7 mw_ml_5_78 mw_inst_X7_blame mw_sel_X7_blame hd_X7_blame ⟨Nat.le_trans (by decide) hfr, Nat.le_trans (by decide) hlo⟩ rfl rfl rfl (Nat.le_of_ble_eq_true rfl) dX5_takeMore_218 (fun zz496 H locs hp498 G => ?_)
                  obtain ⟨oo499, kk500⟩ := hp498
                  have kk501 : KC z zz496 := KC.tr KC.rf (KT.c kk500)
                  have h502 : tI zz496 0 5 = (tI z 0 5) := KF.i kk500 10 (rfl : ro 0 = 10) (by decide) rfl
                  have h503 : tI zz496 5 7 = v474 := KF.i kk500 5 (rfl : ro 5 = 5) (by decide) e475.symm
                  have h504 : tI zz496 5 4 = v492 := KF.i kk500 5 (rfl : ro 5 = 5) (by decide) e493.symm
                  have h505 : tP zz496 5 0 = qq1 := KF.p kk500 eqq1.symm
                  exact RET G ⟨oo499, kk501, h502⟩ dX5_takeMore_221
                · skip
                  have b506 : iv 0 0 v492 := iv_eq c494 (iv_lit (lo := 0) (hi := 0) 0 (by decide) (by decide))
                  refine lv_aload_n E.1 E.2.1 dX5_takeMore_183 rfl (lv_at hl 2 rfl) ?_
                  refine lv_iconst (v := 1) E.1 E.2.1 dX5_takeMore_184 (by decide) ?_
                  refine t_vv E G hl (rr_release l D K ad z o (1 : Int32)) 5 (rfl : ro 5 = 5) (by decide) rfl rfl 1 rfl mw_code_X5_release mw_ini_5 mw_ml_5_105 mw_inst_X5_release mw_sel_X5_release hd_X5_release ⟨Nat.le_trans (by decide) hfr, Nat.le_trans (by decide) hlo⟩ rfl rfl rfl (Nat.le_of_ble_eq_true rfl) dX5_takeMore_185 (fun zz507 H locs hp509 G => ?_)
                  obtain ⟨oo510, kk511, h512⟩ := hp509
                  have kk513 : KC z zz507 := KC.tr KC.rf kk511
                  refine lv_aload_n E.1 E.2.1 dX5_takeMore_188 rfl (lv_at hl 2 rfl) ?_
                  refine t_get E G 5 8 (rfl : ro 5 = 5) (C := RX5) (T := TX5) (N := 9) rfl (by decide) (by decide) (by decide) mw_fl_5_44 (fvl_d rfl) dX5_takeMore_189 ?_
                  obtain ⟨qq514, eqq514⟩ : ∃ q : Nat, q = tP zz507 5 8 := ⟨_, rfl⟩
                  have aqq514 : at_ 4 qq514 = true := by rw [eqq514]; exact oo510.p 5 8 (rfl : ro 5 = 5) (by decide)
                  rw [← eqq514]
                  refine t_vv E G hl (r_closeClause l D K ad zz507 oo510 qq514 aqq514) 4 (at_ro (i := 0) aqq514 (by decide) : ro qq514 = 4) (by decide) rfl rfl 0 rfl mw_code_X4_closeClause mw_ini_4 mw_ml_5_114 mw_inst_X4_closeClause mw_sel_X4_closeClause hd_X4_closeClause ⟨Nat.le_trans (by decide) hfr, Nat.le_trans (by decide) hlo⟩ rfl rfl rfl (Nat.le_of_ble_eq_true rfl) dX5_takeMore_192 (fun zz515 H locs hp517 G => ?_)
                  obtain ⟨oo518, kk519, h520⟩ := hp517
                  have kk521 : KC z zz515 := KC.tr kk513 kk519
                  refine lv_aload_n E.1 E.2.1 dX5_takeMore_195 rfl (lv_at hl 2 rfl) ?_
                  refine lv_iload_n E.1 E.2.1 dX5_takeMore_196 rfl (lv_at hl 1 rfl) ?_
                  refine lv_bipush (v := 20) E.1 E.2.1 dX5_takeMore_197 (by decide) ?_
                  refine lv_icmp_ne (tgt := 206) E.1 E.2.1 dX5_takeMore_199 (by decide) (fun h => absurd c490 h) (fun _ => ?_)
                  refine lv_iconst (v := 0) E.1 E.2.1 dX5_takeMore_202 (by decide) ?_
                  refine lv_goto (tgt := 207) E.1 E.2.1 dX5_takeMore_203 (by decide) ?_
                  refine t_puti E G 5 6 (rfl : ro 5 = 5) (C := RX5) (T := TX5) (N := 9) rfl (by decide) (by decide) (by decide) rfl rfl mw_fl_5_35 rfl dX5_takeMore_207 (fun H locs G => ?_)
                  obtain ⟨zz522, G, oo523, kk524, h525, h526⟩ : ∃ u : TS, mG D A s H locs (wd K ad u) ∧ Ok u ∧ KC z u ∧ tI u 0 5 = (tI z 0 5) ∧ tI u 5 6 = 0 := ⟨_, G, ok_i oo518 5 (rfl : ro 5 = 5) (iv_mono (iv_lit (lo := 0) (hi := 0) 0 (by decide) (by decide)) (by decide) (by decide)) (by decide), KC.tr kk521 (KC_i 5 (rfl : ro 5 = 5) (by decide)), (sI_k (h520.trans (h512.trans rfl)) (by decide)), sI_self⟩
                  refine lv_goto (tgt := 221) E.1 E.2.1 dX5_takeMore_210 (by decide) ?_
                  exact RET G ⟨oo523, kk524, h525⟩ dX5_takeMore_221
              · skip
                refine lv_iload_n E.1 E.2.1 dX5_takeMore_162 rfl (lv_at hl 1 rfl) ?_
                refine lv_bipush (v := 40) E.1 E.2.1 dX5_takeMore_163 (by decide) ?_
                refine lv_icmp_ne (tgt := 213) E.1 E.2.1 dX5_takeMore_165 (by decide) (fun c527 => ?_) (fun c527 => ?_)
                · skip
                  refine lv_aload_n E.1 E.2.1 dX5_takeMore_213 rfl (lv_at hl 2 rfl) ?_
                  refine t_get E G 5 0 (rfl : ro 5 = 5) (C := RX5) (T := TX5) (N := 9) rfl (by decide) (by decide) (by decide) mw_fl_5_12 (fvl_d rfl) dX5_takeMore_214 ?_
                  rw [eqq1.symm]
                  refine lv_iconst (v := 0) E.1 E.2.1 dX5_takeMore_217 (by decide) ?_
                  refine t_vv E G hl (tp_blame l D K ad z o qq1 aqq1 (0 : Int32)) 7 (at_ro (i := 0) aqq1 (by decide) : ro qq1 = 7) (by decide) rfl rfl 1 rfl mw_code_X7_blame mw_ini_7 mw_ml_5_78 mw_inst_X7_blame mw_sel_X7_blame hd_X7_blame ⟨Nat.le_trans (by decide) hfr, Nat.le_trans (by decide) hlo⟩ rfl rfl rfl (Nat.le_of_ble_eq_true rfl) dX5_takeMore_218 (fun zz529 H locs hp531 G => ?_)
                  obtain ⟨oo532, kk533⟩ := hp531
                  have kk534 : KC z zz529 := KC.tr KC.rf (KT.c kk533)
                  have h535 : tI zz529 0 5 = (tI z 0 5) := KF.i kk533 10 (rfl : ro 0 = 10) (by decide) rfl
                  have h536 : tI zz529 5 7 = v474 := KF.i kk533 5 (rfl : ro 5 = 5) (by decide) e475.symm
                  have h537 : tP zz529 5 0 = qq1 := KF.p kk533 eqq1.symm
                  exact RET G ⟨oo532, kk534, h535⟩ dX5_takeMore_221
                · skip
                  have b538 : iv 40 40 v2 := iv_eq c527 (iv_lit (lo := 40) (hi := 40) 40 (by decide) (by decide))
                  refine lv_aload_n E.1 E.2.1 dX5_takeMore_168 rfl (lv_at hl 2 rfl) ?_
                  refine t_get E G 5 7 (rfl : ro 5 = 5) (C := RX5) (T := TX5) (N := 9) rfl (by decide) (by decide) (by decide) mw_fl_5_38 (fvl_i rfl) dX5_takeMore_169 ?_
                  refine m_ci v474 e475.symm ?_
                  refine lv_iconst (v := 1) E.1 E.2.1 dX5_takeMore_172 (by decide) ?_
                  refine lv_icmp_eq (tgt := 213) E.1 E.2.1 dX5_takeMore_173 (by decide) (fun h => absurd h (ivne2 b477 (iv_lit (lo := 1) (hi := 1) 1 (by decide) (by decide)) (by decide))) (fun _ => ?_)
                  refine lv_aload_n E.1 E.2.1 dX5_takeMore_176 rfl (lv_at hl 2 rfl) ?_
                  refine t_get E G 5 4 (rfl : ro 5 = 5) (C := RX5) (T := TX5) (N := 9) rfl (by decide) (by decide) (by decide) mw_fl_5_29 (fvl_i rfl) dX5_takeMore_177 ?_
                  refine lv_topi (fun v539 e540 => ?_)
                  refine lv_if_ne (tgt := 213) E.1 E.2.1 dX5_takeMore_180 (by decide) (fun c541 => ?_) (fun c541 => ?_)
                  · skip
                    refine lv_aload_n E.1 E.2.1 dX5_takeMore_213 rfl (lv_at hl 2 rfl) ?_
                    refine t_get E G 5 0 (rfl : ro 5 = 5) (C := RX5) (T := TX5) (N := 9) rfl (by decide) (by decide) (by decide) mw_fl_5_12 (fvl_d rfl) dX5_takeMore_214 ?_
                    rw [eqq1.symm]
                    refine lv_iconst (v := 0) E.1 E.2.1 dX5_takeMore_217 (by decide) ?_
                    refine t_vv E G hl (tp_blame l D K ad z o qq1 aqq1 (0 : Int32)) 7 (at_ro (i := 0) aqq1 (by decide) : ro qq1 = 7) (by decide) rfl rfl 1 rfl mw_code_X7_blame mw_ini_7 mw_ml_5_78 mw_inst_X7_blame mw_sel_X7_blame hd_X7_blame ⟨Nat.le_trans (by decide) hfr, Nat.le_trans (by decide) hlo⟩ rfl rfl rfl (Nat.le_of_ble_eq_true rfl) dX5_takeMore_218 (fun zz543 H locs hp545 G => ?_)
                    obtain ⟨oo546, kk547⟩ := hp545
                    have kk548 : KC z zz543 := KC.tr KC.rf (KT.c kk547)
                    have h549 : tI zz543 0 5 = (tI z 0 5) := KF.i kk547 10 (rfl : ro 0 = 10) (by decide) rfl
                    have h550 : tI zz543 5 7 = v474 := KF.i kk547 5 (rfl : ro 5 = 5) (by decide) e475.symm
                    have h551 : tI zz543 5 4 = v539 := KF.i kk547 5 (rfl : ro 5 = 5) (by decide) e540.symm
                    have h552 : tP zz543 5 0 = qq1 := KF.p kk547 eqq1.symm
                    exact RET G ⟨oo546, kk548, h549⟩ dX5_takeMore_221
                  · skip
                    have b553 : iv 0 0 v539 := iv_eq c541 (iv_lit (lo := 0) (hi := 0) 0 (by decide) (by decide))
                    refine lv_aload_n E.1 E.2.1 dX5_takeMore_183 rfl (lv_at hl 2 rfl) ?_
                    refine lv_iconst (v := 1) E.1 E.2.1 dX5_takeMore_184 (by decide) ?_
                    refine t_vv E G hl (rr_release l D K ad z o (1 : Int32)) 5 (rfl : ro 5 = 5) (by decide) rfl rfl 1 rfl mw_code_X5_release mw_ini_5 mw_ml_5_105 mw_inst_X5_release mw_sel_X5_release hd_X5_release ⟨Nat.le_trans (by decide) hfr, Nat.le_trans (by decide) hlo⟩ rfl rfl rfl (Nat.le_of_ble_eq_true rfl) dX5_takeMore_185 (fun zz554 H locs hp556 G => ?_)
                    obtain ⟨oo557, kk558, h559⟩ := hp556
                    have kk560 : KC z zz554 := KC.tr KC.rf kk558
                    refine lv_aload_n E.1 E.2.1 dX5_takeMore_188 rfl (lv_at hl 2 rfl) ?_
                    refine t_get E G 5 8 (rfl : ro 5 = 5) (C := RX5) (T := TX5) (N := 9) rfl (by decide) (by decide) (by decide) mw_fl_5_44 (fvl_d rfl) dX5_takeMore_189 ?_
                    obtain ⟨qq561, eqq561⟩ : ∃ q : Nat, q = tP zz554 5 8 := ⟨_, rfl⟩
                    have aqq561 : at_ 4 qq561 = true := by rw [eqq561]; exact oo557.p 5 8 (rfl : ro 5 = 5) (by decide)
                    rw [← eqq561]
                    refine t_vv E G hl (r_closeClause l D K ad zz554 oo557 qq561 aqq561) 4 (at_ro (i := 0) aqq561 (by decide) : ro qq561 = 4) (by decide) rfl rfl 0 rfl mw_code_X4_closeClause mw_ini_4 mw_ml_5_114 mw_inst_X4_closeClause mw_sel_X4_closeClause hd_X4_closeClause ⟨Nat.le_trans (by decide) hfr, Nat.le_trans (by decide) hlo⟩ rfl rfl rfl (Nat.le_of_ble_eq_true rfl) dX5_takeMore_192 (fun zz562 H locs hp564 G => ?_)
                    obtain ⟨oo565, kk566, h567⟩ := hp564
                    have kk568 : KC z zz562 := KC.tr kk560 kk566
                    refine lv_aload_n E.1 E.2.1 dX5_takeMore_195 rfl (lv_at hl 2 rfl) ?_
                    refine lv_iload_n E.1 E.2.1 dX5_takeMore_196 rfl (lv_at hl 1 rfl) ?_
                    refine lv_bipush (v := 20) E.1 E.2.1 dX5_takeMore_197 (by decide) ?_
                    refine lv_icmp_ne (tgt := 206) E.1 E.2.1 dX5_takeMore_199 (by decide) (fun _ => ?_) (fun h => absurd h (ivne2 b538 (iv_lit (lo := 20) (hi := 20) 20 (by decide) (by decide)) (by decide)))
                    refine lv_iconst (v := 4) E.1 E.2.1 dX5_takeMore_206 (by decide) ?_
                    refine t_puti E G 5 6 (rfl : ro 5 = 5) (C := RX5) (T := TX5) (N := 9) rfl (by decide) (by decide) (by decide) rfl rfl mw_fl_5_35 rfl dX5_takeMore_207 (fun H locs G => ?_)
                    obtain ⟨zz569, G, oo570, kk571, h572, h573⟩ : ∃ u : TS, mG D A s H locs (wd K ad u) ∧ Ok u ∧ KC z u ∧ tI u 0 5 = (tI z 0 5) ∧ tI u 5 6 = 4 := ⟨_, G, ok_i oo565 5 (rfl : ro 5 = 5) (iv_mono (iv_lit (lo := 4) (hi := 4) 4 (by decide) (by decide)) (by decide) (by decide)) (by decide), KC.tr kk568 (KC_i 5 (rfl : ro 5 = 5) (by decide)), (sI_k (h567.trans (h559.trans rfl)) (by decide)), sI_self⟩
                    refine lv_goto (tgt := 221) E.1 E.2.1 dX5_takeMore_210 (by decide) ?_
                    exact RET G ⟨oo570, kk571, h572⟩ dX5_takeMore_221
            · skip
              have b574 : iv 22 22 v2 := iv_eq c489 (iv_lit (lo := 22) (hi := 22) 22 (by decide) (by decide))
              refine lv_aload_n E.1 E.2.1 dX5_takeMore_134 rfl (lv_at hl 2 rfl) ?_
              refine t_get E G 5 7 (rfl : ro 5 = 5) (C := RX5) (T := TX5) (N := 9) rfl (by decide) (by decide) (by decide) mw_fl_5_38 (fvl_i rfl) dX5_takeMore_135 ?_
              refine m_ci v474 e475.symm ?_
              refine lv_iconst (v := 2) E.1 E.2.1 dX5_takeMore_138 (by decide) ?_
              refine lv_icmp_lt (tgt := 156) E.1 E.2.1 dX5_takeMore_139 (by decide) (fun h => absurd h (ivnlt b477 (iv_lit (lo := 2) (hi := 2) 2 (by decide) (by decide)) (by decide))) (fun _ => ?_)
              refine lv_aload_n E.1 E.2.1 dX5_takeMore_142 rfl (lv_at hl 2 rfl) ?_
              refine t_get E G 5 4 (rfl : ro 5 = 5) (C := RX5) (T := TX5) (N := 9) rfl (by decide) (by decide) (by decide) mw_fl_5_29 (fvl_i rfl) dX5_takeMore_143 ?_
              refine lv_topi (fun v575 e576 => ?_)
              refine lv_if_le (tgt := 156) E.1 E.2.1 dX5_takeMore_146 (by decide) (fun c577 => ?_) (fun c577 => ?_)
              · skip
                have b578 : iv (-2147483648) 0 v575 := le_l c577 (iv_full v575) (iv_lit (lo := 0) (hi := 0) 0 (by decide) (by decide)) (by decide)
                refine lv_iload_n E.1 E.2.1 dX5_takeMore_156 rfl (lv_at hl 1 rfl) ?_
                refine lv_bipush (v := 20) E.1 E.2.1 dX5_takeMore_157 (by decide) ?_
                refine lv_icmp_eq (tgt := 168) E.1 E.2.1 dX5_takeMore_159 (by decide) (fun h => absurd h (ivne2 b574 (iv_lit (lo := 20) (hi := 20) 20 (by decide) (by decide)) (by decide))) (fun _ => ?_)
                refine lv_iload_n E.1 E.2.1 dX5_takeMore_162 rfl (lv_at hl 1 rfl) ?_
                refine lv_bipush (v := 40) E.1 E.2.1 dX5_takeMore_163 (by decide) ?_
                refine lv_icmp_ne (tgt := 213) E.1 E.2.1 dX5_takeMore_165 (by decide) (fun _ => ?_) (fun h => absurd h (ivne1 b574 (iv_lit (lo := 40) (hi := 40) 40 (by decide) (by decide)) (by decide)))
                refine lv_aload_n E.1 E.2.1 dX5_takeMore_213 rfl (lv_at hl 2 rfl) ?_
                refine t_get E G 5 0 (rfl : ro 5 = 5) (C := RX5) (T := TX5) (N := 9) rfl (by decide) (by decide) (by decide) mw_fl_5_12 (fvl_d rfl) dX5_takeMore_214 ?_
                rw [eqq1.symm]
                refine lv_iconst (v := 0) E.1 E.2.1 dX5_takeMore_217 (by decide) ?_
                refine t_vv E G hl (tp_blame l D K ad z o qq1 aqq1 (0 : Int32)) 7 (at_ro (i := 0) aqq1 (by decide) : ro qq1 = 7) (by decide) rfl rfl 1 rfl mw_code_X7_blame mw_ini_7 mw_ml_5_78 mw_inst_X7_blame mw_sel_X7_blame hd_X7_blame ⟨Nat.le_trans (by decide) hfr, Nat.le_trans (by decide) hlo⟩ rfl rfl rfl (Nat.le_of_ble_eq_true rfl) dX5_takeMore_218 (fun zz580 H locs hp582 G => ?_)
                obtain ⟨oo583, kk584⟩ := hp582
                have kk585 : KC z zz580 := KC.tr KC.rf (KT.c kk584)
                have h586 : tI zz580 0 5 = (tI z 0 5) := KF.i kk584 10 (rfl : ro 0 = 10) (by decide) rfl
                have h587 : tI zz580 5 7 = v474 := KF.i kk584 5 (rfl : ro 5 = 5) (by decide) e475.symm
                have h588 : tI zz580 5 4 = v575 := KF.i kk584 5 (rfl : ro 5 = 5) (by decide) e576.symm
                have h589 : tP zz580 5 0 = qq1 := KF.p kk584 eqq1.symm
                exact RET G ⟨oo583, kk585, h586⟩ dX5_takeMore_221
              · skip
                have b590 : iv 1 2147483647 v575 := lt_r (Int32.not_le.mp c577) (iv_lit (lo := 0) (hi := 0) 0 (by decide) (by decide)) (iv_full v575) (by decide)
                refine lv_aload_n E.1 E.2.1 dX5_takeMore_149 rfl (lv_at hl 2 rfl) ?_
                refine t_vv E G hl (rr_closeBracket l D K ad z o) 5 (rfl : ro 5 = 5) (by decide) rfl rfl 0 rfl mw_code_X5_closeBracket mw_ini_5 mw_ml_5_111 mw_inst_X5_closeBracket mw_sel_X5_closeBracket hd_X5_closeBracket ⟨Nat.le_trans (by decide) hfr, Nat.le_trans (by decide) hlo⟩ rfl rfl rfl (Nat.le_of_ble_eq_true rfl) dX5_takeMore_150 (fun zz591 H locs hp593 G => ?_)
                obtain ⟨oo594, kk595, h596⟩ := hp593
                have kk597 : KC z zz591 := KC.tr KC.rf kk595
                refine lv_goto (tgt := 221) E.1 E.2.1 dX5_takeMore_153 (by decide) ?_
                exact RET G ⟨oo594, kk597, (h596.trans rfl)⟩ dX5_takeMore_221
          · skip
            have b598 : iv 13 13 v2 := iv_eq c488 (iv_lit (lo := 13) (hi := 13) 13 (by decide) (by decide))
            refine lv_aload_n E.1 E.2.1 dX5_takeMore_111 rfl (lv_at hl 2 rfl) ?_
            refine t_get E G 5 7 (rfl : ro 5 = 5) (C := RX5) (T := TX5) (N := 9) rfl (by decide) (by decide) (by decide) mw_fl_5_38 (fvl_i rfl) dX5_takeMore_112 ?_
            refine m_ci v474 e475.symm ?_
            refine lv_iconst (v := 2) E.1 E.2.1 dX5_takeMore_115 (by decide) ?_
            refine lv_icmp_lt (tgt := 128) E.1 E.2.1 dX5_takeMore_116 (by decide) (fun h => absurd h (ivnlt b477 (iv_lit (lo := 2) (hi := 2) 2 (by decide) (by decide)) (by decide))) (fun _ => ?_)
            refine lv_aload_n E.1 E.2.1 dX5_takeMore_119 rfl (lv_at hl 2 rfl) ?_
            refine lv_iload_n E.1 E.2.1 dX5_takeMore_120 rfl (lv_at hl 0 rfl) ?_
            refine lv_iconst (v := 1) E.1 E.2.1 dX5_takeMore_121 (by decide) ?_
            refine t_vv E G hl (rr_takeOperator l D K ad z o r6 (1 : Int32)) 5 (rfl : ro 5 = 5) (by decide) rfl rfl 2 rfl mw_code_X5_takeOperator mw_ini_5 mw_ml_5_101 mw_inst_X5_takeOperator mw_sel_X5_takeOperator hd_X5_takeOperator ⟨Nat.le_trans (by decide) hfr, Nat.le_trans (by decide) hlo⟩ rfl rfl rfl (Nat.le_of_ble_eq_true rfl) dX5_takeMore_122 (fun zz599 H locs hp601 G => ?_)
            obtain ⟨oo602, kk603, h604⟩ := hp601
            have kk605 : KC z zz599 := KC.tr KC.rf kk603
            refine lv_goto (tgt := 221) E.1 E.2.1 dX5_takeMore_125 (by decide) ?_
            exact RET G ⟨oo602, kk605, (h604.trans rfl)⟩ dX5_takeMore_221
      · skip
        have b606 : iv 12 12 v2 := iv_eq c478 (iv_lit (lo := 12) (hi := 12) 12 (by decide) (by decide))
        refine lv_aload_n E.1 E.2.1 dX5_takeMore_72 rfl (lv_at hl 2 rfl) ?_
        refine t_get E G 5 7 (rfl : ro 5 = 5) (C := RX5) (T := TX5) (N := 9) rfl (by decide) (by decide) (by decide) mw_fl_5_38 (fvl_i rfl) dX5_takeMore_73 ?_
        refine m_ci v474 e475.symm ?_
        refine lv_if_ne (tgt := 99) E.1 E.2.1 dX5_takeMore_76 (by decide) (fun _ => ?_) (fun h => absurd h (ivne2 b477 (iv_lit (lo := 0) (hi := 0) 0 (by decide) (by decide)) (by decide)))
        refine lv_iload_n E.1 E.2.1 dX5_takeMore_99 rfl (lv_at hl 1 rfl) ?_
        refine lv_bipush (v := 14) E.1 E.2.1 dX5_takeMore_100 (by decide) ?_
        refine lv_icmp_eq (tgt := 111) E.1 E.2.1 dX5_takeMore_102 (by decide) (fun h => absurd h (ivne1 b606 (iv_lit (lo := 14) (hi := 14) 14 (by decide) (by decide)) (by decide))) (fun _ => ?_)
        refine lv_iload_n E.1 E.2.1 dX5_takeMore_105 rfl (lv_at hl 1 rfl) ?_
        refine lv_bipush (v := 13) E.1 E.2.1 dX5_takeMore_106 (by decide) ?_
        refine lv_icmp_ne (tgt := 128) E.1 E.2.1 dX5_takeMore_108 (by decide) (fun _ => ?_) (fun h => absurd h (ivne1 b606 (iv_lit (lo := 13) (hi := 13) 13 (by decide) (by decide)) (by decide)))
        refine lv_iload_n E.1 E.2.1 dX5_takeMore_128 rfl (lv_at hl 1 rfl) ?_
        refine lv_bipush (v := 22) E.1 E.2.1 dX5_takeMore_129 (by decide) ?_
        refine lv_icmp_ne (tgt := 156) E.1 E.2.1 dX5_takeMore_131 (by decide) (fun _ => ?_) (fun h => absurd h (ivne1 b606 (iv_lit (lo := 22) (hi := 22) 22 (by decide) (by decide)) (by decide)))
        refine lv_iload_n E.1 E.2.1 dX5_takeMore_156 rfl (lv_at hl 1 rfl) ?_
        refine lv_bipush (v := 20) E.1 E.2.1 dX5_takeMore_157 (by decide) ?_
        refine lv_icmp_eq (tgt := 168) E.1 E.2.1 dX5_takeMore_159 (by decide) (fun h => absurd h (ivne1 b606 (iv_lit (lo := 20) (hi := 20) 20 (by decide) (by decide)) (by decide))) (fun _ => ?_)
        refine lv_iload_n E.1 E.2.1 dX5_takeMore_162 rfl (lv_at hl 1 rfl) ?_
        refine lv_bipush (v := 40) E.1 E.2.1 dX5_takeMore_163 (by decide) ?_
        refine lv_icmp_ne (tgt := 213) E.1 E.2.1 dX5_takeMore_165 (by decide) (fun _ => ?_) (fun h => absurd h (ivne1 b606 (iv_lit (lo := 40) (hi := 40) 40 (by decide) (by decide)) (by decide)))
        refine lv_aload_n E.1 E.2.1 dX5_takeMore_213 rfl (lv_at hl 2 rfl) ?_
        refine t_get E G 5 0 (rfl : ro 5 = 5) (C := RX5) (T := TX5) (N := 9) rfl (by decide) (by decide) (by decide) mw_fl_5_12 (fvl_d rfl) dX5_takeMore_214 ?_
        rw [eqq1.symm]
        refine lv_iconst (v := 0) E.1 E.2.1 dX5_takeMore_217 (by decide) ?_
        refine t_vv E G hl (tp_blame l D K ad z o qq1 aqq1 (0 : Int32)) 7 (at_ro (i := 0) aqq1 (by decide) : ro qq1 = 7) (by decide) rfl rfl 1 rfl mw_code_X7_blame mw_ini_7 mw_ml_5_78 mw_inst_X7_blame mw_sel_X7_blame hd_X7_blame ⟨Nat.le_trans (by decide) hfr, Nat.le_trans (by decide) hlo⟩ rfl rfl rfl (Nat.le_of_ble_eq_true rfl) dX5_takeMore_218 (fun zz608 H locs hp610 G => ?_)
        obtain ⟨oo611, kk612⟩ := hp610
        have kk613 : KC z zz608 := KC.tr KC.rf (KT.c kk612)
        have h614 : tI zz608 0 5 = (tI z 0 5) := KF.i kk612 10 (rfl : ro 0 = 10) (by decide) rfl
        have h615 : tI zz608 5 7 = v474 := KF.i kk612 5 (rfl : ro 5 = 5) (by decide) e475.symm
        have h616 : tP zz608 5 0 = qq1 := KF.p kk612 eqq1.symm
        exact RET G ⟨oo611, kk613, h614⟩ dX5_takeMore_221
    · skip
      refine lv_aload_n E.1 E.2.1 dX5_takeMore_26 rfl (lv_at hl 2 rfl) ?_
      refine lv_iload_n E.1 E.2.1 dX5_takeMore_27 rfl (lv_at hl 0 rfl) ?_
      refine lv_iconst (v := 2) E.1 E.2.1 dX5_takeMore_28 (by decide) ?_
      refine t_vv E G hl (rr_takeOperator l D K ad z o r6 (2 : Int32)) 5 (rfl : ro 5 = 5) (by decide) rfl rfl 2 rfl mw_code_X5_takeOperator mw_ini_5 mw_ml_5_101 mw_inst_X5_takeOperator mw_sel_X5_takeOperator hd_X5_takeOperator ⟨Nat.le_trans (by decide) hfr, Nat.le_trans (by decide) hlo⟩ rfl rfl rfl (Nat.le_of_ble_eq_true rfl) dX5_takeMore_29 (fun zz617 H locs hp619 G => ?_)
      obtain ⟨oo620, kk621, h622⟩ := hp619
      have kk623 : KC z zz617 := KC.tr KC.rf kk621
      refine lv_goto (tgt := 221) E.1 E.2.1 dX5_takeMore_32 (by decide) ?_
      exact RET G ⟨oo620, kk623, (h622.trans rfl)⟩ dX5_takeMore_221
