theorem mw_code_X10_startNow : (Cond.code yX10_startNow cX10_startNow 1 none : Cond) ∈ cw := cw_of (List.mem_append_right _ (List.mem_append_right _ (List.mem_append_right _ (List.mem_append_right _ (List.mem_append_left _ (List.mem_of_getElem? (i := 68) rfl)))))) (by decide +kernel)
theorem mw_code_X10_walkersAtHome : (Cond.code yX10_walkersAtHome cX10_walkersAtHome 3 (some .int) : Cond) ∈ cw := cw_of (List.mem_append_right _ (List.mem_append_right _ (List.mem_append_right _ (List.mem_append_right _ (List.mem_append_left _ (List.mem_of_getElem? (i := 46) rfl)))))) (by decide +kernel)
theorem mw_code_X1_goSteps : (Cond.code yX1_goSteps cX1_goSteps 3 none : Cond) ∈ cw := cw_of (List.mem_append_right _ (List.mem_append_right _ (List.mem_append_right _ (List.mem_append_right _ (List.mem_append_left _ (List.mem_of_getElem? (i := 169) rfl)))))) (by decide +kernel)
theorem mw_code_X3_add : (Cond.code yX3_add cX3_add 4 (some .boolean) : Cond) ∈ cw := cw_of (List.mem_append_right _ (List.mem_append_right _ (List.mem_append_right _ (List.mem_append_right _ (List.mem_append_right _ (List.mem_append_left _ (List.mem_of_getElem? (i := 39) rfl))))))) (by decide +kernel)
theorem mw_code_X6_allCharges : (Cond.code yX6_allCharges cX6_allCharges 4 (some .int) : Cond) ∈ cw := cw_of (List.mem_append_right _ (List.mem_append_right _ (List.mem_append_right _ (List.mem_append_right _ (List.mem_append_left _ (List.mem_of_getElem? (i := 50) rfl)))))) (by decide +kernel)
theorem mw_fl_10_130 : (Cond.fieldLink RX10 130 "LureTown$Moment" "notes" "LLureTown$Notes;" : Cond) ∈ cw := cw_of (List.mem_append_right _ (List.mem_append_right _ (List.mem_append_left _ (List.mem_of_getElem? (i := 56) (by decide +kernel))))) (by decide +kernel)
theorem mw_fl_10_134 : (Cond.fieldLink RX10 134 "LureTown$Notes" "size" "I" : Cond) ∈ cw := cw_of (List.mem_append_right _ (List.mem_append_right _ (List.mem_append_left _ (List.mem_of_getElem? (i := 38) (by decide +kernel))))) (by decide +kernel)
theorem mw_fl_10_195 : (Cond.fieldLink RX10 195 "LureTown$Town" "wayCount" "I" : Cond) ∈ cw := cw_of (List.mem_append_right _ (List.mem_append_left _ (List.mem_of_getElem? (i := 139) (by decide +kernel)))) (by decide +kernel)
theorem mw_fl_10_201 : (Cond.fieldLink RX10 201 "LureTown$State" "steps" "I" : Cond) ∈ cw := cw_of (List.mem_append_right _ (List.mem_append_left _ (List.mem_of_getElem? (i := 115) (by decide +kernel)))) (by decide +kernel)
theorem mw_fl_10_204 : (Cond.fieldLink RX10 204 "LureTown$State" "setBits" "I" : Cond) ∈ cw := cw_of (List.mem_append_right _ (List.mem_append_left _ (List.mem_of_getElem? (i := 112) (by decide +kernel)))) (by decide +kernel)
theorem mw_fl_10_216 : (Cond.fieldLink RX10 216 "LureTown$Moment" "x" "I" : Cond) ∈ cw := cw_of (List.mem_append_right _ (List.mem_append_right _ (List.mem_append_left _ (List.mem_of_getElem? (i := 60) (by decide +kernel))))) (by decide +kernel)
theorem mw_fl_10_232 : (Cond.fieldLink RX10 232 "LureTown$Course" "state" "LLureTown$State;" : Cond) ∈ cw := cw_of (List.mem_append_right _ (List.mem_append_right _ (List.mem_append_left _ (List.mem_of_getElem? (i := 106) (by decide +kernel))))) (by decide +kernel)
theorem mw_ini_3 : (Cond.initialized RX3 : Cond) ∈ cw := cw_of (List.mem_append_right _ (List.mem_append_left _ (List.mem_of_getElem? (i := 9) (by decide +kernel)))) (by decide +kernel)
theorem mw_inst_X10_startNow : (Cond.instanceMethod yX10_startNow : Cond) ∈ cw := cw_of (List.mem_append_right _ (List.mem_append_right _ (List.mem_append_right _ (List.mem_append_right _ (List.mem_append_left _ (List.mem_of_getElem? (i := 67) (by decide +kernel))))))) (by decide +kernel)
theorem mw_inst_X10_walkersAtHome : (Cond.instanceMethod yX10_walkersAtHome : Cond) ∈ cw := cw_of (List.mem_append_right _ (List.mem_append_right _ (List.mem_append_right _ (List.mem_append_right _ (List.mem_append_left _ (List.mem_of_getElem? (i := 45) (by decide +kernel))))))) (by decide +kernel)
theorem mw_inst_X1_goSteps : (Cond.instanceMethod yX1_goSteps : Cond) ∈ cw := cw_of (List.mem_append_right _ (List.mem_append_right _ (List.mem_append_right _ (List.mem_append_right _ (List.mem_append_left _ (List.mem_of_getElem? (i := 167) (by decide +kernel))))))) (by decide +kernel)
theorem mw_inst_X3_add : (Cond.instanceMethod yX3_add : Cond) ∈ cw := cw_of (List.mem_append_right _ (List.mem_append_right _ (List.mem_append_right _ (List.mem_append_right _ (List.mem_append_right _ (List.mem_append_left _ (List.mem_of_getElem? (i := 37) (by decide +kernel)))))))) (by decide +kernel)
theorem mw_inst_X6_allCharges : (Cond.instanceMethod yX6_allCharges : Cond) ∈ cw := cw_of (List.mem_append_right _ (List.mem_append_right _ (List.mem_append_right _ (List.mem_append_right _ (List.mem_append_left _ (List.mem_of_getElem? (i := 48) (by decide +kernel))))))) (by decide +kernel)
theorem mw_ml_10_127 : (Cond.methodLink RX10 127 yX6_copyFrom : Cond) ∈ cw := cw_of (List.mem_append_right _ (List.mem_append_right _ (List.mem_append_right _ (List.mem_append_left _ (List.mem_of_getElem? (i := 172) (by decide +kernel)))))) (by decide +kernel)
theorem mw_ml_10_207 : (Cond.methodLink RX10 207 yX10_walkersAtHome : Cond) ∈ cw := cw_of (List.mem_append_right _ (List.mem_append_right _ (List.mem_append_right _ (List.mem_append_right _ (List.mem_append_left _ (List.mem_of_getElem? (i := 43) (by decide +kernel))))))) (by decide +kernel)
theorem mw_ml_10_211 : (Cond.methodLink RX10 211 yX6_allCharges : Cond) ∈ cw := cw_of (List.mem_append_right _ (List.mem_append_right _ (List.mem_append_right _ (List.mem_append_right _ (List.mem_append_left _ (List.mem_of_getElem? (i := 47) (by decide +kernel))))))) (by decide +kernel)
theorem mw_ml_10_226 : (Cond.methodLink RX10 226 yX10_startNow : Cond) ∈ cw := cw_of (List.mem_append_right _ (List.mem_append_right _ (List.mem_append_right _ (List.mem_append_right _ (List.mem_append_left _ (List.mem_of_getElem? (i := 65) (by decide +kernel))))))) (by decide +kernel)
theorem mw_ml_10_229 : (Cond.methodLink RX10 229 yX1_goStep : Cond) ∈ cw := cw_of (List.mem_append_right _ (List.mem_append_right _ (List.mem_append_right _ (List.mem_append_right _ (List.mem_append_left _ (List.mem_of_getElem? (i := 82) (by decide +kernel))))))) (by decide +kernel)
theorem mw_ml_10_242 : (Cond.methodLink RX10 242 yX1_goSteps : Cond) ∈ cw := cw_of (List.mem_append_right _ (List.mem_append_right _ (List.mem_append_right _ (List.mem_append_right _ (List.mem_append_left _ (List.mem_of_getElem? (i := 166) (by decide +kernel))))))) (by decide +kernel)
theorem mw_ml_10_314 : (Cond.methodLink RX10 314 yX3_add : Cond) ∈ cw := cw_of (List.mem_append_right _ (List.mem_append_right _ (List.mem_append_right _ (List.mem_append_right _ (List.mem_append_right _ (List.mem_append_left _ (List.mem_of_getElem? (i := 36) (by decide +kernel)))))))) (by decide +kernel)
theorem mw_sel_X10_startNow : (Cond.selects RX10 yX10_startNow yX10_startNow : Cond) ∈ cw := cw_of (List.mem_append_left _ (List.mem_of_getElem? (i := 27) (by decide +kernel))) (by decide +kernel)
theorem mw_sel_X10_walkersAtHome : (Cond.selects RX10 yX10_walkersAtHome yX10_walkersAtHome : Cond) ∈ cw := cw_of (List.mem_append_left _ (List.mem_of_getElem? (i := 25) (by decide +kernel))) (by decide +kernel)
theorem mw_sel_X1_goSteps : (Cond.selects RX1 yX1_goSteps yX1_goSteps : Cond) ∈ cw := cw_of (List.mem_append_right _ (List.mem_append_right _ (List.mem_append_right _ (List.mem_append_right _ (List.mem_append_left _ (List.mem_of_getElem? (i := 168) (by decide +kernel))))))) (by decide +kernel)
theorem mw_sel_X3_add : (Cond.selects RX3 yX3_add yX3_add : Cond) ∈ cw := cw_of (List.mem_append_right _ (List.mem_append_right _ (List.mem_append_right _ (List.mem_append_right _ (List.mem_append_right _ (List.mem_append_left _ (List.mem_of_getElem? (i := 38) (by decide +kernel)))))))) (by decide +kernel)
theorem mw_sel_X6_allCharges : (Cond.selects RX6 yX6_allCharges yX6_allCharges : Cond) ∈ cw := cw_of (List.mem_append_right _ (List.mem_append_right _ (List.mem_append_right _ (List.mem_append_right _ (List.mem_append_left _ (List.mem_of_getElem? (i := 49) (by decide +kernel))))))) (by decide +kernel)
theorem dX10_ahead_0 : decode cX10_ahead 0 = .ok (.aload_n 0, 1) := by decide +kernel
theorem dX10_ahead_1 : decode cX10_ahead 1 = .ok (.invokevirtual 219, 3) := by decide +kernel
theorem dX10_ahead_4 : decode cX10_ahead 4 = .ok (.ifCond .eq 22, 3) := by decide +kernel
theorem dX10_ahead_7 : decode cX10_ahead 7 = .ok (.iload_n 2, 1) := by decide +kernel
theorem dX10_ahead_8 : decode cX10_ahead 8 = .ok (.ifCond .lt 18, 3) := by decide +kernel
theorem dX10_ahead_11 : decode cX10_ahead 11 = .ok (.iload_n 2, 1) := by decide +kernel
theorem dX10_ahead_12 : decode cX10_ahead 12 = .ok (.bipush 100, 2) := by decide +kernel
theorem dX10_ahead_14 : decode cX10_ahead 14 = .ok (.if_icmp .gt 12, 3) := by decide +kernel
theorem dX10_ahead_17 : decode cX10_ahead 17 = .ok (.iload_n 3, 1) := by decide +kernel
theorem dX10_ahead_18 : decode cX10_ahead 18 = .ok (.ifCond .lt 8, 3) := by decide +kernel
theorem dX10_ahead_21 : decode cX10_ahead 21 = .ok (.iload_n 3, 1) := by decide +kernel
theorem dX10_ahead_22 : decode cX10_ahead 22 = .ok (.iconst 2, 1) := by decide +kernel
theorem dX10_ahead_23 : decode cX10_ahead 23 = .ok (.if_icmp .le 5, 3) := by decide +kernel
theorem dX10_ahead_26 : decode cX10_ahead 26 = .ok (.iconst (-1), 1) := by decide +kernel
theorem dX10_ahead_27 : decode cX10_ahead 27 = .ok (.ireturn, 1) := by decide +kernel
theorem dX10_ahead_28 : decode cX10_ahead 28 = .ok (.iload_n 3, 1) := by decide +kernel
theorem dX10_ahead_29 : decode cX10_ahead 29 = .ok (.iconst 2, 1) := by decide +kernel
theorem dX10_ahead_30 : decode cX10_ahead 30 = .ok (.if_icmp .eq 13, 3) := by decide +kernel
theorem dX10_ahead_33 : decode cX10_ahead 33 = .ok (.aload_n 0, 1) := by decide +kernel
theorem dX10_ahead_34 : decode cX10_ahead 34 = .ok (.iload_n 1, 1) := by decide +kernel
theorem dX10_ahead_35 : decode cX10_ahead 35 = .ok (.invokevirtual 168, 3) := by decide +kernel
theorem dX10_ahead_38 : decode cX10_ahead 38 = .ok (.ifCond .ne 5, 3) := by decide +kernel
theorem dX10_ahead_41 : decode cX10_ahead 41 = .ok (.iconst (-1), 1) := by decide +kernel
theorem dX10_ahead_42 : decode cX10_ahead 42 = .ok (.ireturn, 1) := by decide +kernel
theorem dX10_ahead_43 : decode cX10_ahead 43 = .ok (.aload_n 0, 1) := by decide +kernel
theorem dX10_ahead_44 : decode cX10_ahead 44 = .ok (.invokevirtual 226, 3) := by decide +kernel
theorem dX10_ahead_47 : decode cX10_ahead 47 = .ok (.aload_n 0, 1) := by decide +kernel
theorem dX10_ahead_48 : decode cX10_ahead 48 = .ok (.getfield 76, 3) := by decide +kernel
theorem dX10_ahead_51 : decode cX10_ahead 51 = .ok (.iload_n 2, 1) := by decide +kernel
theorem dX10_ahead_52 : decode cX10_ahead 52 = .ok (.invokevirtual 242, 3) := by decide +kernel
theorem dX10_ahead_55 : decode cX10_ahead 55 = .ok (.iload_n 3, 1) := by decide +kernel
theorem dX10_ahead_56 : decode cX10_ahead 56 = .ok (.iconst 2, 1) := by decide +kernel
theorem dX10_ahead_57 : decode cX10_ahead 57 = .ok (.if_icmp .ne 14, 3) := by decide +kernel
theorem dX10_ahead_60 : decode cX10_ahead 60 = .ok (.aload_n 0, 1) := by decide +kernel
theorem dX10_ahead_61 : decode cX10_ahead 61 = .ok (.getfield 76, 3) := by decide +kernel
theorem dX10_ahead_64 : decode cX10_ahead 64 = .ok (.getfield 232, 3) := by decide +kernel
theorem dX10_ahead_67 : decode cX10_ahead 67 = .ok (.getfield 204, 3) := by decide +kernel
theorem dX10_ahead_70 : decode cX10_ahead 70 = .ok (.ireturn, 1) := by decide +kernel
theorem dX10_ahead_71 : decode cX10_ahead 71 = .ok (.iload_n 3, 1) := by decide +kernel
theorem dX10_ahead_72 : decode cX10_ahead 72 = .ok (.ifCond .ne 18, 3) := by decide +kernel
theorem dX10_ahead_75 : decode cX10_ahead 75 = .ok (.aload_n 0, 1) := by decide +kernel
theorem dX10_ahead_76 : decode cX10_ahead 76 = .ok (.getfield 76, 3) := by decide +kernel
theorem dX10_ahead_79 : decode cX10_ahead 79 = .ok (.getfield 232, 3) := by decide +kernel
theorem dX10_ahead_82 : decode cX10_ahead 82 = .ok (.getfield 171, 3) := by decide +kernel
theorem dX10_ahead_85 : decode cX10_ahead 85 = .ok (.iload_n 1, 1) := by decide +kernel
theorem dX10_ahead_86 : decode cX10_ahead 86 = .ok (.iaload, 1) := by decide +kernel
theorem dX10_ahead_87 : decode cX10_ahead 87 = .ok (.goto 15, 3) := by decide +kernel
theorem dX10_ahead_90 : decode cX10_ahead 90 = .ok (.aload_n 0, 1) := by decide +kernel
theorem dX10_ahead_91 : decode cX10_ahead 91 = .ok (.getfield 76, 3) := by decide +kernel
theorem dX10_ahead_94 : decode cX10_ahead 94 = .ok (.getfield 232, 3) := by decide +kernel
theorem dX10_ahead_97 : decode cX10_ahead 97 = .ok (.getfield 183, 3) := by decide +kernel
theorem dX10_ahead_100 : decode cX10_ahead 100 = .ok (.iload_n 1, 1) := by decide +kernel
theorem dX10_ahead_101 : decode cX10_ahead 101 = .ok (.iaload, 1) := by decide +kernel
theorem dX10_ahead_102 : decode cX10_ahead 102 = .ok (.ireturn, 1) := by decide +kernel
theorem dX10_count_0 : decode cX10_count 0 = .ok (.iload_n 1, 1) := by decide +kernel
theorem dX10_count_1 : decode cX10_count 1 = .ok (.tableswitch 211 0 13 #[71, 82, 93, 104, 115, 120, 128, 139, 150, 155, 176, 187, 195, 203], 71) := by decide +kernel
theorem dX10_count_72 : decode cX10_count 72 = .ok (.aload_n 0, 1) := by decide +kernel
theorem dX10_count_73 : decode cX10_count 73 = .ok (.getfield 55, 3) := by decide +kernel
theorem dX10_count_76 : decode cX10_count 76 = .ok (.getfield 114, 3) := by decide +kernel
theorem dX10_count_79 : decode cX10_count 79 = .ok (.getfield 192, 3) := by decide +kernel
theorem dX10_count_82 : decode cX10_count 82 = .ok (.ireturn, 1) := by decide +kernel
theorem dX10_count_83 : decode cX10_count 83 = .ok (.aload_n 0, 1) := by decide +kernel
theorem dX10_count_84 : decode cX10_count 84 = .ok (.getfield 55, 3) := by decide +kernel
theorem dX10_count_87 : decode cX10_count 87 = .ok (.getfield 114, 3) := by decide +kernel
theorem dX10_count_90 : decode cX10_count 90 = .ok (.getfield 195, 3) := by decide +kernel
theorem dX10_count_93 : decode cX10_count 93 = .ok (.ireturn, 1) := by decide +kernel
theorem dX10_count_94 : decode cX10_count 94 = .ok (.aload_n 0, 1) := by decide +kernel
theorem dX10_count_95 : decode cX10_count 95 = .ok (.getfield 55, 3) := by decide +kernel
theorem dX10_count_98 : decode cX10_count 98 = .ok (.getfield 114, 3) := by decide +kernel
theorem dX10_count_101 : decode cX10_count 101 = .ok (.getfield 198, 3) := by decide +kernel
theorem dX10_count_104 : decode cX10_count 104 = .ok (.ireturn, 1) := by decide +kernel
theorem dX10_count_105 : decode cX10_count 105 = .ok (.aload_n 0, 1) := by decide +kernel
theorem dX10_count_106 : decode cX10_count 106 = .ok (.getfield 55, 3) := by decide +kernel
theorem dX10_count_109 : decode cX10_count 109 = .ok (.getfield 114, 3) := by decide +kernel
theorem dX10_count_112 : decode cX10_count 112 = .ok (.getfield 140, 3) := by decide +kernel
theorem dX10_count_115 : decode cX10_count 115 = .ok (.ireturn, 1) := by decide +kernel
theorem dX10_count_116 : decode cX10_count 116 = .ok (.aload_n 0, 1) := by decide +kernel
theorem dX10_count_117 : decode cX10_count 117 = .ok (.getfield 43, 3) := by decide +kernel
theorem dX10_count_120 : decode cX10_count 120 = .ok (.ireturn, 1) := by decide +kernel
theorem dX10_count_121 : decode cX10_count 121 = .ok (.aload_n 0, 1) := by decide +kernel
theorem dX10_count_122 : decode cX10_count 122 = .ok (.getfield 55, 3) := by decide +kernel
theorem dX10_count_125 : decode cX10_count 125 = .ok (.getfield 146, 3) := by decide +kernel
theorem dX10_count_128 : decode cX10_count 128 = .ok (.ireturn, 1) := by decide +kernel
theorem dX10_count_129 : decode cX10_count 129 = .ok (.aload_n 0, 1) := by decide +kernel
theorem dX10_count_130 : decode cX10_count 130 = .ok (.getfield 55, 3) := by decide +kernel
theorem dX10_count_133 : decode cX10_count 133 = .ok (.getfield 121, 3) := by decide +kernel
theorem dX10_count_136 : decode cX10_count 136 = .ok (.getfield 201, 3) := by decide +kernel
theorem dX10_count_139 : decode cX10_count 139 = .ok (.ireturn, 1) := by decide +kernel
theorem dX10_count_140 : decode cX10_count 140 = .ok (.aload_n 0, 1) := by decide +kernel
theorem dX10_count_141 : decode cX10_count 141 = .ok (.getfield 55, 3) := by decide +kernel
theorem dX10_count_144 : decode cX10_count 144 = .ok (.getfield 121, 3) := by decide +kernel
theorem dX10_count_147 : decode cX10_count 147 = .ok (.getfield 204, 3) := by decide +kernel
theorem dX10_count_150 : decode cX10_count 150 = .ok (.ireturn, 1) := by decide +kernel
theorem dX10_count_151 : decode cX10_count 151 = .ok (.aload_n 0, 1) := by decide +kernel
theorem dX10_count_152 : decode cX10_count 152 = .ok (.invokevirtual 207, 3) := by decide +kernel
theorem dX10_count_155 : decode cX10_count 155 = .ok (.ireturn, 1) := by decide +kernel
theorem dX10_count_156 : decode cX10_count 156 = .ok (.aload_n 0, 1) := by decide +kernel
theorem dX10_count_157 : decode cX10_count 157 = .ok (.getfield 55, 3) := by decide +kernel
theorem dX10_count_160 : decode cX10_count 160 = .ok (.getfield 121, 3) := by decide +kernel
theorem dX10_count_163 : decode cX10_count 163 = .ok (.aload_n 0, 1) := by decide +kernel
theorem dX10_count_164 : decode cX10_count 164 = .ok (.getfield 55, 3) := by decide +kernel
theorem dX10_count_167 : decode cX10_count 167 = .ok (.getfield 114, 3) := by decide +kernel
theorem dX10_count_170 : decode cX10_count 170 = .ok (.getfield 140, 3) := by decide +kernel
theorem dX10_count_173 : decode cX10_count 173 = .ok (.invokevirtual 211, 3) := by decide +kernel
theorem dX10_count_176 : decode cX10_count 176 = .ok (.ireturn, 1) := by decide +kernel
theorem dX10_count_177 : decode cX10_count 177 = .ok (.aload_n 0, 1) := by decide +kernel
theorem dX10_count_178 : decode cX10_count 178 = .ok (.getfield 55, 3) := by decide +kernel
theorem dX10_count_181 : decode cX10_count 181 = .ok (.getfield 130, 3) := by decide +kernel
theorem dX10_count_184 : decode cX10_count 184 = .ok (.getfield 134, 3) := by decide +kernel
theorem dX10_count_187 : decode cX10_count 187 = .ok (.ireturn, 1) := by decide +kernel
theorem dX10_count_188 : decode cX10_count 188 = .ok (.aload_n 0, 1) := by decide +kernel
theorem dX10_count_189 : decode cX10_count 189 = .ok (.getfield 69, 3) := by decide +kernel
theorem dX10_count_192 : decode cX10_count 192 = .ok (.getfield 215, 3) := by decide +kernel
theorem dX10_count_195 : decode cX10_count 195 = .ok (.ireturn, 1) := by decide +kernel
theorem dX10_count_196 : decode cX10_count 196 = .ok (.aload_n 0, 1) := by decide +kernel
theorem dX10_count_197 : decode cX10_count 197 = .ok (.getfield 55, 3) := by decide +kernel
theorem dX10_count_200 : decode cX10_count 200 = .ok (.getfield 216, 3) := by decide +kernel
theorem dX10_count_203 : decode cX10_count 203 = .ok (.ireturn, 1) := by decide +kernel
theorem dX10_count_204 : decode cX10_count 204 = .ok (.aload_n 0, 1) := by decide +kernel
theorem dX10_count_205 : decode cX10_count 205 = .ok (.getfield 10, 3) := by decide +kernel
theorem dX10_count_208 : decode cX10_count 208 = .ok (.getfield 100, 3) := by decide +kernel
theorem dX10_count_211 : decode cX10_count 211 = .ok (.ireturn, 1) := by decide +kernel
theorem dX10_count_212 : decode cX10_count 212 = .ok (.iconst (-1), 1) := by decide +kernel
theorem dX10_count_213 : decode cX10_count 213 = .ok (.ireturn, 1) := by decide +kernel
theorem dX10_note_0 : decode cX10_note 0 = .ok (.iload_n 1, 1) := by decide +kernel
theorem dX10_note_1 : decode cX10_note 1 = .ok (.iconst (-1), 1) := by decide +kernel
theorem dX10_note_2 : decode cX10_note 2 = .ok (.if_icmp .ne 16, 3) := by decide +kernel
theorem dX10_note_5 : decode cX10_note 5 = .ok (.aload_n 0, 1) := by decide +kernel
theorem dX10_note_6 : decode cX10_note 6 = .ok (.getfield 55, 3) := by decide +kernel
theorem dX10_note_9 : decode cX10_note 9 = .ok (.getfield 130, 3) := by decide +kernel
theorem dX10_note_12 : decode cX10_note 12 = .ok (.iconst 0, 1) := by decide +kernel
theorem dX10_note_13 : decode cX10_note 13 = .ok (.putfield 134, 3) := by decide +kernel
theorem dX10_note_16 : decode cX10_note 16 = .ok (.iconst 0, 1) := by decide +kernel
theorem dX10_note_17 : decode cX10_note 17 = .ok (.ireturn, 1) := by decide +kernel
theorem dX10_note_18 : decode cX10_note 18 = .ok (.iload_n 1, 1) := by decide +kernel
theorem dX10_note_19 : decode cX10_note 19 = .ok (.ifCond .lt 25, 3) := by decide +kernel
theorem dX10_note_22 : decode cX10_note 22 = .ok (.iload_n 1, 1) := by decide +kernel
theorem dX10_note_23 : decode cX10_note 23 = .ok (.bipush 60, 2) := by decide +kernel
theorem dX10_note_25 : decode cX10_note 25 = .ok (.if_icmp .gt 19, 3) := by decide +kernel
theorem dX10_note_28 : decode cX10_note 28 = .ok (.aload_n 0, 1) := by decide +kernel
theorem dX10_note_29 : decode cX10_note 29 = .ok (.iload_n 2, 1) := by decide +kernel
theorem dX10_note_30 : decode cX10_note 30 = .ok (.invokevirtual 168, 3) := by decide +kernel
theorem dX10_note_33 : decode cX10_note 33 = .ok (.ifCond .eq 11, 3) := by decide +kernel
theorem dX10_note_36 : decode cX10_note 36 = .ok (.aload_n 0, 1) := by decide +kernel
theorem dX10_note_37 : decode cX10_note 37 = .ok (.iload_n 3, 1) := by decide +kernel
theorem dX10_note_38 : decode cX10_note 38 = .ok (.invokevirtual 186, 3) := by decide +kernel
theorem dX10_note_41 : decode cX10_note 41 = .ok (.ifCond .ne 6, 3) := by decide +kernel
theorem dX10_note_44 : decode cX10_note 44 = .ok (.bipush (-2), 2) := by decide +kernel
theorem dX10_note_46 : decode cX10_note 46 = .ok (.ireturn, 1) := by decide +kernel
theorem dX10_note_47 : decode cX10_note 47 = .ok (.aload_n 0, 1) := by decide +kernel
theorem dX10_note_48 : decode cX10_note 48 = .ok (.getfield 55, 3) := by decide +kernel
theorem dX10_note_51 : decode cX10_note 51 = .ok (.getfield 130, 3) := by decide +kernel
theorem dX10_note_54 : decode cX10_note 54 = .ok (.iload_n 1, 1) := by decide +kernel
theorem dX10_note_55 : decode cX10_note 55 = .ok (.iload_n 2, 1) := by decide +kernel
theorem dX10_note_56 : decode cX10_note 56 = .ok (.iload_n 3, 1) := by decide +kernel
theorem dX10_note_57 : decode cX10_note 57 = .ok (.invokevirtual 314, 3) := by decide +kernel
theorem dX10_note_60 : decode cX10_note 60 = .ok (.ifCond .eq 16, 3) := by decide +kernel
theorem dX10_note_63 : decode cX10_note 63 = .ok (.aload_n 0, 1) := by decide +kernel
theorem dX10_note_64 : decode cX10_note 64 = .ok (.getfield 55, 3) := by decide +kernel
theorem dX10_note_67 : decode cX10_note 67 = .ok (.getfield 130, 3) := by decide +kernel
theorem dX10_note_70 : decode cX10_note 70 = .ok (.getfield 134, 3) := by decide +kernel
theorem dX10_note_73 : decode cX10_note 73 = .ok (.goto 5, 3) := by decide +kernel
theorem dX10_note_76 : decode cX10_note 76 = .ok (.bipush (-2), 2) := by decide +kernel
theorem dX10_note_78 : decode cX10_note 78 = .ok (.ireturn, 1) := by decide +kernel
theorem dX10_pence_0 : decode cX10_pence 0 = .ok (.aload_n 0, 1) := by decide +kernel
theorem dX10_pence_1 : decode cX10_pence 1 = .ok (.iload_n 2, 1) := by decide +kernel
theorem dX10_pence_2 : decode cX10_pence 2 = .ok (.invokevirtual 168, 3) := by decide +kernel
theorem dX10_pence_5 : decode cX10_pence 5 = .ok (.ifCond .eq 14, 3) := by decide +kernel
theorem dX10_pence_8 : decode cX10_pence 8 = .ok (.iload_n 1, 1) := by decide +kernel
theorem dX10_pence_9 : decode cX10_pence 9 = .ok (.ifCond .lt 10, 3) := by decide +kernel
theorem dX10_pence_12 : decode cX10_pence 12 = .ok (.iload_n 1, 1) := by decide +kernel
theorem dX10_pence_13 : decode cX10_pence 13 = .ok (.sipush 9999, 3) := by decide +kernel
theorem dX10_pence_16 : decode cX10_pence 16 = .ok (.if_icmp .le 5, 3) := by decide +kernel
theorem dX10_pence_19 : decode cX10_pence 19 = .ok (.iconst (-1), 1) := by decide +kernel
theorem dX10_pence_20 : decode cX10_pence 20 = .ok (.ireturn, 1) := by decide +kernel
theorem dX10_pence_21 : decode cX10_pence 21 = .ok (.aload_n 0, 1) := by decide +kernel
theorem dX10_pence_22 : decode cX10_pence 22 = .ok (.getfield 55, 3) := by decide +kernel
theorem dX10_pence_25 : decode cX10_pence 25 = .ok (.getfield 121, 3) := by decide +kernel
theorem dX10_pence_28 : decode cX10_pence 28 = .ok (.aload_n 0, 1) := by decide +kernel
theorem dX10_pence_29 : decode cX10_pence 29 = .ok (.getfield 55, 3) := by decide +kernel
theorem dX10_pence_32 : decode cX10_pence 32 = .ok (.getfield 114, 3) := by decide +kernel
theorem dX10_pence_35 : decode cX10_pence 35 = .ok (.getfield 140, 3) := by decide +kernel
theorem dX10_pence_38 : decode cX10_pence 38 = .ok (.invokevirtual 211, 3) := by decide +kernel
theorem dX10_pence_41 : decode cX10_pence 41 = .ok (.istore_n 3, 1) := by decide +kernel
theorem dX10_pence_42 : decode cX10_pence 42 = .ok (.iload_n 3, 1) := by decide +kernel
theorem dX10_pence_43 : decode cX10_pence 43 = .ok (.ifCond .gt 5, 3) := by decide +kernel
theorem dX10_pence_46 : decode cX10_pence 46 = .ok (.iconst 0, 1) := by decide +kernel
theorem dX10_pence_47 : decode cX10_pence 47 = .ok (.ireturn, 1) := by decide +kernel
theorem dX10_pence_48 : decode cX10_pence 48 = .ok (.iload_n 1, 1) := by decide +kernel
theorem dX10_pence_49 : decode cX10_pence 49 = .ok (.istore 4, 2) := by decide +kernel
theorem dX10_pence_51 : decode cX10_pence 51 = .ok (.iconst 0, 1) := by decide +kernel
theorem dX10_pence_52 : decode cX10_pence 52 = .ok (.istore 5, 2) := by decide +kernel
theorem dX10_pence_54 : decode cX10_pence 54 = .ok (.iload_n 1, 1) := by decide +kernel
theorem dX10_pence_55 : decode cX10_pence 55 = .ok (.aload_n 0, 1) := by decide +kernel
theorem dX10_pence_56 : decode cX10_pence 56 = .ok (.getfield 55, 3) := by decide +kernel
theorem dX10_pence_59 : decode cX10_pence 59 = .ok (.getfield 121, 3) := by decide +kernel
theorem dX10_pence_62 : decode cX10_pence 62 = .ok (.getfield 183, 3) := by decide +kernel
theorem dX10_pence_65 : decode cX10_pence 65 = .ok (.iload_n 2, 1) := by decide +kernel
theorem dX10_pence_66 : decode cX10_pence 66 = .ok (.iaload, 1) := by decide +kernel
theorem dX10_pence_67 : decode cX10_pence 67 = .ok (.imul, 1) := by decide +kernel
theorem dX10_pence_68 : decode cX10_pence 68 = .ok (.iload_n 3, 1) := by decide +kernel
theorem dX10_pence_69 : decode cX10_pence 69 = .ok (.irem, 1) := by decide +kernel
theorem dX10_pence_70 : decode cX10_pence 70 = .ok (.istore 6, 2) := by decide +kernel
theorem dX10_pence_72 : decode cX10_pence 72 = .ok (.iconst 0, 1) := by decide +kernel
theorem dX10_pence_73 : decode cX10_pence 73 = .ok (.istore 7, 2) := by decide +kernel
theorem dX10_pence_75 : decode cX10_pence 75 = .ok (.iload 7, 2) := by decide +kernel
theorem dX10_pence_77 : decode cX10_pence 77 = .ok (.aload_n 0, 1) := by decide +kernel
theorem dX10_pence_78 : decode cX10_pence 78 = .ok (.getfield 55, 3) := by decide +kernel
theorem dX10_pence_81 : decode cX10_pence 81 = .ok (.getfield 114, 3) := by decide +kernel
theorem dX10_pence_84 : decode cX10_pence 84 = .ok (.getfield 140, 3) := by decide +kernel
theorem dX10_pence_87 : decode cX10_pence 87 = .ok (.if_icmp .ge 62, 3) := by decide +kernel
theorem dX10_pence_90 : decode cX10_pence 90 = .ok (.iload_n 1, 1) := by decide +kernel
theorem dX10_pence_91 : decode cX10_pence 91 = .ok (.aload_n 0, 1) := by decide +kernel
theorem dX10_pence_92 : decode cX10_pence 92 = .ok (.getfield 55, 3) := by decide +kernel
theorem dX10_pence_95 : decode cX10_pence 95 = .ok (.getfield 121, 3) := by decide +kernel
theorem dX10_pence_98 : decode cX10_pence 98 = .ok (.getfield 183, 3) := by decide +kernel
theorem dX10_pence_101 : decode cX10_pence 101 = .ok (.iload 7, 2) := by decide +kernel
theorem dX10_pence_103 : decode cX10_pence 103 = .ok (.iaload, 1) := by decide +kernel
theorem dX10_pence_104 : decode cX10_pence 104 = .ok (.imul, 1) := by decide +kernel
theorem dX10_pence_105 : decode cX10_pence 105 = .ok (.istore 8, 2) := by decide +kernel
theorem dX10_pence_107 : decode cX10_pence 107 = .ok (.iload 4, 2) := by decide +kernel
theorem dX10_pence_109 : decode cX10_pence 109 = .ok (.iload 8, 2) := by decide +kernel
theorem dX10_pence_111 : decode cX10_pence 111 = .ok (.iload_n 3, 1) := by decide +kernel
theorem dX10_pence_112 : decode cX10_pence 112 = .ok (.idiv, 1) := by decide +kernel
theorem dX10_pence_113 : decode cX10_pence 113 = .ok (.isub, 1) := by decide +kernel
theorem dX10_pence_114 : decode cX10_pence 114 = .ok (.istore 4, 2) := by decide +kernel
theorem dX10_pence_116 : decode cX10_pence 116 = .ok (.iload 8, 2) := by decide +kernel
theorem dX10_pence_118 : decode cX10_pence 118 = .ok (.iload_n 3, 1) := by decide +kernel
theorem dX10_pence_119 : decode cX10_pence 119 = .ok (.irem, 1) := by decide +kernel
theorem dX10_pence_120 : decode cX10_pence 120 = .ok (.iload 6, 2) := by decide +kernel
theorem dX10_pence_122 : decode cX10_pence 122 = .ok (.if_icmp .gt 18, 3) := by decide +kernel
theorem dX10_pence_125 : decode cX10_pence 125 = .ok (.iload 8, 2) := by decide +kernel
theorem dX10_pence_127 : decode cX10_pence 127 = .ok (.iload_n 3, 1) := by decide +kernel
theorem dX10_pence_128 : decode cX10_pence 128 = .ok (.irem, 1) := by decide +kernel
theorem dX10_pence_129 : decode cX10_pence 129 = .ok (.iload 6, 2) := by decide +kernel
theorem dX10_pence_131 : decode cX10_pence 131 = .ok (.if_icmp .ne 12, 3) := by decide +kernel
theorem dX10_pence_134 : decode cX10_pence 134 = .ok (.iload 7, 2) := by decide +kernel
theorem dX10_pence_136 : decode cX10_pence 136 = .ok (.iload_n 2, 1) := by decide +kernel
theorem dX10_pence_137 : decode cX10_pence 137 = .ok (.if_icmp .ge 6, 3) := by decide +kernel
theorem dX10_pence_140 : decode cX10_pence 140 = .ok (.iinc 5 1, 3) := by decide +kernel
theorem dX10_pence_143 : decode cX10_pence 143 = .ok (.iinc 7 1, 3) := by decide +kernel
theorem dX10_pence_146 : decode cX10_pence 146 = .ok (.goto (-71), 3) := by decide +kernel
theorem dX10_pence_149 : decode cX10_pence 149 = .ok (.iload_n 1, 1) := by decide +kernel
theorem dX10_pence_150 : decode cX10_pence 150 = .ok (.aload_n 0, 1) := by decide +kernel
theorem dX10_pence_151 : decode cX10_pence 151 = .ok (.getfield 55, 3) := by decide +kernel
theorem dX10_pence_154 : decode cX10_pence 154 = .ok (.getfield 121, 3) := by decide +kernel
theorem dX10_pence_157 : decode cX10_pence 157 = .ok (.getfield 183, 3) := by decide +kernel
theorem dX10_pence_160 : decode cX10_pence 160 = .ok (.iload_n 2, 1) := by decide +kernel
theorem dX10_pence_161 : decode cX10_pence 161 = .ok (.iaload, 1) := by decide +kernel
theorem dX10_pence_162 : decode cX10_pence 162 = .ok (.imul, 1) := by decide +kernel
theorem dX10_pence_163 : decode cX10_pence 163 = .ok (.iload_n 3, 1) := by decide +kernel
theorem dX10_pence_164 : decode cX10_pence 164 = .ok (.idiv, 1) := by decide +kernel
theorem dX10_pence_165 : decode cX10_pence 165 = .ok (.iload 5, 2) := by decide +kernel
theorem dX10_pence_167 : decode cX10_pence 167 = .ok (.iload 4, 2) := by decide +kernel
theorem dX10_pence_169 : decode cX10_pence 169 = .ok (.if_icmp .ge 7, 3) := by decide +kernel
theorem dX10_pence_172 : decode cX10_pence 172 = .ok (.iconst 1, 1) := by decide +kernel
theorem dX10_pence_173 : decode cX10_pence 173 = .ok (.goto 4, 3) := by decide +kernel
theorem dX10_pence_176 : decode cX10_pence 176 = .ok (.iconst 0, 1) := by decide +kernel
theorem dX10_pence_177 : decode cX10_pence 177 = .ok (.iadd, 1) := by decide +kernel
theorem dX10_pence_178 : decode cX10_pence 178 = .ok (.ireturn, 1) := by decide +kernel
theorem dX10_step_0 : decode cX10_step 0 = .ok (.aload_n 0, 1) := by decide +kernel
theorem dX10_step_1 : decode cX10_step 1 = .ok (.invokevirtual 219, 3) := by decide +kernel
theorem dX10_step_4 : decode cX10_step 4 = .ok (.ifCond .eq 19, 3) := by decide +kernel
theorem dX10_step_7 : decode cX10_step 7 = .ok (.aload_n 0, 1) := by decide +kernel
theorem dX10_step_8 : decode cX10_step 8 = .ok (.getfield 55, 3) := by decide +kernel
theorem dX10_step_11 : decode cX10_step 11 = .ok (.getfield 121, 3) := by decide +kernel
theorem dX10_step_14 : decode cX10_step 14 = .ok (.getfield 201, 3) := by decide +kernel
theorem dX10_step_17 : decode cX10_step 17 = .ok (.sipush 999, 3) := by decide +kernel
theorem dX10_step_20 : decode cX10_step 20 = .ok (.if_icmp .lt 5, 3) := by decide +kernel
theorem dX10_step_23 : decode cX10_step 23 = .ok (.iconst (-1), 1) := by decide +kernel
theorem dX10_step_24 : decode cX10_step 24 = .ok (.ireturn, 1) := by decide +kernel
theorem dX10_step_25 : decode cX10_step 25 = .ok (.aload_n 0, 1) := by decide +kernel
theorem dX10_step_26 : decode cX10_step 26 = .ok (.getfield 69, 3) := by decide +kernel
theorem dX10_step_29 : decode cX10_step 29 = .ok (.aload_n 0, 1) := by decide +kernel
theorem dX10_step_30 : decode cX10_step 30 = .ok (.getfield 55, 3) := by decide +kernel
theorem dX10_step_33 : decode cX10_step 33 = .ok (.getfield 121, 3) := by decide +kernel
theorem dX10_step_36 : decode cX10_step 36 = .ok (.invokevirtual 223, 3) := by decide +kernel
theorem dX10_step_39 : decode cX10_step 39 = .ok (.aload_n 0, 1) := by decide +kernel
theorem dX10_step_40 : decode cX10_step 40 = .ok (.invokevirtual 226, 3) := by decide +kernel
theorem dX10_step_43 : decode cX10_step 43 = .ok (.aload_n 0, 1) := by decide +kernel
theorem dX10_step_44 : decode cX10_step 44 = .ok (.getfield 76, 3) := by decide +kernel
theorem dX10_step_47 : decode cX10_step 47 = .ok (.invokevirtual 229, 3) := by decide +kernel
theorem dX10_step_50 : decode cX10_step 50 = .ok (.istore_n 1, 1) := by decide +kernel
theorem dX10_step_51 : decode cX10_step 51 = .ok (.aload_n 0, 1) := by decide +kernel
theorem dX10_step_52 : decode cX10_step 52 = .ok (.getfield 55, 3) := by decide +kernel
theorem dX10_step_55 : decode cX10_step 55 = .ok (.getfield 121, 3) := by decide +kernel
theorem dX10_step_58 : decode cX10_step 58 = .ok (.aload_n 0, 1) := by decide +kernel
theorem dX10_step_59 : decode cX10_step 59 = .ok (.getfield 76, 3) := by decide +kernel
theorem dX10_step_62 : decode cX10_step 62 = .ok (.getfield 232, 3) := by decide +kernel
theorem dX10_step_65 : decode cX10_step 65 = .ok (.invokevirtual 127, 3) := by decide +kernel
theorem dX10_step_68 : decode cX10_step 68 = .ok (.iload_n 1, 1) := by decide +kernel
theorem dX10_step_69 : decode cX10_step 69 = .ok (.ireturn, 1) := by decide +kernel
theorem hd_X10_startNow : yX10_startNow.cls ≠ "java/lang/invoke/MethodHandle" ∧ yX10_startNow.cls ≠ "java/lang/invoke/VarHandle" ∧ (parseMethodDescriptor yX10_startNow.desc).map (fun d => d.parameters.length) = some 0 := ⟨by decide +kernel, by decide +kernel, by decide +kernel⟩
theorem hd_X10_walkersAtHome : yX10_walkersAtHome.cls ≠ "java/lang/invoke/MethodHandle" ∧ yX10_walkersAtHome.cls ≠ "java/lang/invoke/VarHandle" ∧ (parseMethodDescriptor yX10_walkersAtHome.desc).map (fun d => d.parameters.length) = some 0 := ⟨by decide +kernel, by decide +kernel, by decide +kernel⟩
theorem hd_X1_goSteps : yX1_goSteps.cls ≠ "java/lang/invoke/MethodHandle" ∧ yX1_goSteps.cls ≠ "java/lang/invoke/VarHandle" ∧ (parseMethodDescriptor yX1_goSteps.desc).map (fun d => d.parameters.length) = some 1 := ⟨by decide +kernel, by decide +kernel, by decide +kernel⟩
theorem hd_X3_add : yX3_add.cls ≠ "java/lang/invoke/MethodHandle" ∧ yX3_add.cls ≠ "java/lang/invoke/VarHandle" ∧ (parseMethodDescriptor yX3_add.desc).map (fun d => d.parameters.length) = some 3 := ⟨by decide +kernel, by decide +kernel, by decide +kernel⟩
theorem hd_X6_allCharges : yX6_allCharges.cls ≠ "java/lang/invoke/MethodHandle" ∧ yX6_allCharges.cls ≠ "java/lang/invoke/VarHandle" ∧ (parseMethodDescriptor yX6_allCharges.desc).map (fun d => d.parameters.length) = some 1 := ⟨by decide +kernel, by decide +kernel, by decide +kernel⟩
theorem sw_0_13 (x : Int32) (h1 : ¬ x.toInt < 0) (h2 : ¬ 13 < x.toInt) : x = 0 ∨ x = 1 ∨ x = 2 ∨ x = 3 ∨ x = 4 ∨ x = 5 ∨ x = 6 ∨ x = 7 ∨ x = 8 ∨ x = 9 ∨ x = 10 ∨ x = 11 ∨ x = 12 ∨ x = 13 := by
  have h := (Int32.ofInt_toInt x).symm
  have h3 : ∃ n : Int, n = x.toInt := ⟨_, rfl⟩
  obtain ⟨n, hn⟩ := h3
  rw [← hn] at h h1 h2
  have h4 : n = 0 ∨ n = 1 ∨ n = 2 ∨ n = 3 ∨ n = 4 ∨ n = 5 ∨ n = 6 ∨ n = 7 ∨ n = 8 ∨ n = 9 ∨ n = 10 ∨ n = 11 ∨ n = 12 ∨ n = 13 := by omega
  subst h
  clear hn
  rcases h4 with rfl | rfl | rfl | rfl | rfl | rfl | rfl | rfl | rfl | rfl | rfl | rfl | rfl | rfl <;> simp
set_option maxHeartbeats 4000000 in
set_option maxRecDepth 100000 in
theorem k_count (l : Launch) (D : va_G) (K : Nat → ClassId) (ad : Nat → Nat) (z : TS) (o : Ok z) (x1 : Int32) : cI l yX10_count cX10_count 2 .int ({ frames := 1, cells := 0, slots := 0, locals := 23 }) D K ad z [.ref (ad 0), .int x1] (fun r u => u = z) := by
  refine t_enterI (by decide) (Nat.le_of_ble_eq_true rfl) rfl rfl ?_
  intro p e s m args below meth c A R Q H locs ls E hfr hlo RET G hl
  have E : mE p s m meth c cX10_count args 2 RX10 D K A := E
  have hl : lv_has ls 2 [(0, .ref (ad 0)), (1, .int x1)] := hl
  refine lv_iload_n E.1 E.2.1 dX10_count_0 rfl (lv_at hl 1 rfl) ?_
  rcases Decidable.em (x1.toInt < 0 ∨ 13 < x1.toInt) with c1 | c1
  · refine lv_tableOut (tgt := 212) E.1 E.2.1 dX10_count_1 c1 (by decide) ?_
    refine lv_iconst (v := (-1)) E.1 E.2.1 dX10_count_212 (by decide) ?_
    exact RET G rfl rfl dX10_count_213
  · rcases sw_0_13 x1 (fun h => c1 (Or.inl h)) (fun h => c1 (Or.inr h)) with ee0 | ee1 | ee2 | ee3 | ee4 | ee5 | ee6 | ee7 | ee8 | ee9 | ee10 | ee11 | ee12 | ee13
    · refine lv_tableIn (off := 71) (tgt := 72) E.1 E.2.1 dX10_count_1 (by rw [ee0]; decide) (by rw [ee0]; decide) (by rw [ee0]; decide) (by decide) ?_
      refine lv_aload_n E.1 E.2.1 dX10_count_72 rfl (lv_at hl 0 rfl) ?_
      refine t_get E G 10 7 (rfl : ro 0 = 10) (C := RX10) (T := TX10) (N := 17) rfl (by decide) (by decide) (by decide) mw_fl_10_55 (v := .ref (ad 56)) (fvl_o (n := 56) rfl) dX10_count_73 ?_
      refine t_get E G 2 0 (rfl : ro 56 = 2) (C := RX2) (T := TX2) (N := 5) rfl (by decide) (by decide) (by decide) mw_fl_10_114 (v := .ref (ad 57)) (fvl_o (n := 1) rfl) dX10_count_76 ?_
      refine t_get E G 8 0 (rfl : ro 57 = 8) (C := RX8) (T := TX8) (N := 10) rfl (by decide) (by decide) (by decide) mw_fl_10_192 (fvl_i rfl) dX10_count_79 ?_
      refine lv_topi (fun v3 e4 => ?_)
      have b5 : iv 0 8 v3 := by rw [e4]; exact o.i 8 0 (rfl : ro 57 = 8)
      exact RET G rfl rfl dX10_count_82
    · refine lv_tableIn (off := 82) (tgt := 83) E.1 E.2.1 dX10_count_1 (by rw [ee1]; decide) (by rw [ee1]; decide) (by rw [ee1]; decide) (by decide) ?_
      refine lv_aload_n E.1 E.2.1 dX10_count_83 rfl (lv_at hl 0 rfl) ?_
      refine t_get E G 10 7 (rfl : ro 0 = 10) (C := RX10) (T := TX10) (N := 17) rfl (by decide) (by decide) (by decide) mw_fl_10_55 (v := .ref (ad 56)) (fvl_o (n := 56) rfl) dX10_count_84 ?_
      refine t_get E G 2 0 (rfl : ro 56 = 2) (C := RX2) (T := TX2) (N := 5) rfl (by decide) (by decide) (by decide) mw_fl_10_114 (v := .ref (ad 57)) (fvl_o (n := 1) rfl) dX10_count_87 ?_
      refine t_get E G 8 1 (rfl : ro 57 = 8) (C := RX8) (T := TX8) (N := 10) rfl (by decide) (by decide) (by decide) mw_fl_10_195 (fvl_i rfl) dX10_count_90 ?_
      refine lv_topi (fun v6 e7 => ?_)
      exact RET G rfl rfl dX10_count_93
    · refine lv_tableIn (off := 93) (tgt := 94) E.1 E.2.1 dX10_count_1 (by rw [ee2]; decide) (by rw [ee2]; decide) (by rw [ee2]; decide) (by decide) ?_
      refine lv_aload_n E.1 E.2.1 dX10_count_94 rfl (lv_at hl 0 rfl) ?_
      refine t_get E G 10 7 (rfl : ro 0 = 10) (C := RX10) (T := TX10) (N := 17) rfl (by decide) (by decide) (by decide) mw_fl_10_55 (v := .ref (ad 56)) (fvl_o (n := 56) rfl) dX10_count_95 ?_
      refine t_get E G 2 0 (rfl : ro 56 = 2) (C := RX2) (T := TX2) (N := 5) rfl (by decide) (by decide) (by decide) mw_fl_10_114 (v := .ref (ad 57)) (fvl_o (n := 1) rfl) dX10_count_98 ?_
      refine t_get E G 8 2 (rfl : ro 57 = 8) (C := RX8) (T := TX8) (N := 10) rfl (by decide) (by decide) (by decide) mw_fl_10_198 (fvl_i rfl) dX10_count_101 ?_
      refine lv_topi (fun v8 e9 => ?_)
      have b10 : iv 0 6 v8 := by rw [e9]; exact o.i 8 2 (rfl : ro 57 = 8)
      exact RET G rfl rfl dX10_count_104
    · refine lv_tableIn (off := 104) (tgt := 105) E.1 E.2.1 dX10_count_1 (by rw [ee3]; decide) (by rw [ee3]; decide) (by rw [ee3]; decide) (by decide) ?_
      refine lv_aload_n E.1 E.2.1 dX10_count_105 rfl (lv_at hl 0 rfl) ?_
      refine t_get E G 10 7 (rfl : ro 0 = 10) (C := RX10) (T := TX10) (N := 17) rfl (by decide) (by decide) (by decide) mw_fl_10_55 (v := .ref (ad 56)) (fvl_o (n := 56) rfl) dX10_count_106 ?_
      refine t_get E G 2 0 (rfl : ro 56 = 2) (C := RX2) (T := TX2) (N := 5) rfl (by decide) (by decide) (by decide) mw_fl_10_114 (v := .ref (ad 57)) (fvl_o (n := 1) rfl) dX10_count_109 ?_
      refine t_get E G 8 3 (rfl : ro 57 = 8) (C := RX8) (T := TX8) (N := 10) rfl (by decide) (by decide) (by decide) mw_fl_10_140 (fvl_i rfl) dX10_count_112 ?_
      refine lv_topi (fun v11 e12 => ?_)
      have b13 : iv 0 5 v11 := by rw [e12]; exact o.i 8 3 (rfl : ro 57 = 8)
      exact RET G rfl rfl dX10_count_115
    · refine lv_tableIn (off := 115) (tgt := 116) E.1 E.2.1 dX10_count_1 (by rw [ee4]; decide) (by rw [ee4]; decide) (by rw [ee4]; decide) (by decide) ?_
      refine lv_aload_n E.1 E.2.1 dX10_count_116 rfl (lv_at hl 0 rfl) ?_
      refine t_get E G 10 5 (rfl : ro 0 = 10) (C := RX10) (T := TX10) (N := 17) rfl (by decide) (by decide) (by decide) mw_fl_10_43 (fvl_i rfl) dX10_count_117 ?_
      refine lv_topi (fun v14 e15 => ?_)
      have b16 : iv 0 6 v14 := by rw [e15]; exact o.i 10 5 (rfl : ro 0 = 10)
      exact RET G rfl rfl dX10_count_120
    · refine lv_tableIn (off := 120) (tgt := 121) E.1 E.2.1 dX10_count_1 (by rw [ee5]; decide) (by rw [ee5]; decide) (by rw [ee5]; decide) (by decide) ?_
      refine lv_aload_n E.1 E.2.1 dX10_count_121 rfl (lv_at hl 0 rfl) ?_
      refine t_get E G 10 7 (rfl : ro 0 = 10) (C := RX10) (T := TX10) (N := 17) rfl (by decide) (by decide) (by decide) mw_fl_10_55 (v := .ref (ad 56)) (fvl_o (n := 56) rfl) dX10_count_122 ?_
      refine t_get E G 2 3 (rfl : ro 56 = 2) (C := RX2) (T := TX2) (N := 5) rfl (by decide) (by decide) (by decide) mw_fl_10_146 (fvl_i rfl) dX10_count_125 ?_
      refine lv_topi (fun v17 e18 => ?_)
      exact RET G rfl rfl dX10_count_128
    · refine lv_tableIn (off := 128) (tgt := 129) E.1 E.2.1 dX10_count_1 (by rw [ee6]; decide) (by rw [ee6]; decide) (by rw [ee6]; decide) (by decide) ?_
      refine lv_aload_n E.1 E.2.1 dX10_count_129 rfl (lv_at hl 0 rfl) ?_
      refine t_get E G 10 7 (rfl : ro 0 = 10) (C := RX10) (T := TX10) (N := 17) rfl (by decide) (by decide) (by decide) mw_fl_10_55 (v := .ref (ad 56)) (fvl_o (n := 56) rfl) dX10_count_130 ?_
      refine t_get E G 2 1 (rfl : ro 56 = 2) (C := RX2) (T := TX2) (N := 5) rfl (by decide) (by decide) (by decide) mw_fl_10_121 (v := .ref (ad 70)) (fvl_o (n := 14) rfl) dX10_count_133 ?_
      refine t_get E G 6 7 (rfl : ro 70 = 6) (C := RX6) (T := TX6) (N := 8) rfl (by decide) (by decide) (by decide) mw_fl_10_201 (fvl_i rfl) dX10_count_136 ?_
      refine lv_topi (fun v19 e20 => ?_)
      exact RET G rfl rfl dX10_count_139
    · refine lv_tableIn (off := 139) (tgt := 140) E.1 E.2.1 dX10_count_1 (by rw [ee7]; decide) (by rw [ee7]; decide) (by rw [ee7]; decide) (by decide) ?_
      refine lv_aload_n E.1 E.2.1 dX10_count_140 rfl (lv_at hl 0 rfl) ?_
      refine t_get E G 10 7 (rfl : ro 0 = 10) (C := RX10) (T := TX10) (N := 17) rfl (by decide) (by decide) (by decide) mw_fl_10_55 (v := .ref (ad 56)) (fvl_o (n := 56) rfl) dX10_count_141 ?_
      refine t_get E G 2 1 (rfl : ro 56 = 2) (C := RX2) (T := TX2) (N := 5) rfl (by decide) (by decide) (by decide) mw_fl_10_121 (v := .ref (ad 70)) (fvl_o (n := 14) rfl) dX10_count_144 ?_
      refine t_get E G 6 6 (rfl : ro 70 = 6) (C := RX6) (T := TX6) (N := 8) rfl (by decide) (by decide) (by decide) mw_fl_10_204 (fvl_i rfl) dX10_count_147 ?_
      refine lv_topi (fun v21 e22 => ?_)
      exact RET G rfl rfl dX10_count_150
    · refine lv_tableIn (off := 150) (tgt := 151) E.1 E.2.1 dX10_count_1 (by rw [ee8]; decide) (by rw [ee8]; decide) (by rw [ee8]; decide) (by decide) ?_
      refine lv_aload_n E.1 E.2.1 dX10_count_151 rfl (lv_at hl 0 rfl) ?_
      refine t_vi E G hl (k_walkersAtHome l D K ad z o) 10 (rfl : ro 0 = 10) (by decide) rfl rfl 0 rfl mw_code_X10_walkersAtHome mw_ini_10 mw_ml_10_207 mw_inst_X10_walkersAtHome mw_sel_X10_walkersAtHome hd_X10_walkersAtHome ⟨Nat.le_trans (by decide) hfr, Nat.le_trans (by decide) hlo⟩ rfl rfl rfl (Nat.le_of_ble_eq_true rfl) dX10_count_152 (fun r24 zz23 H locs hp25 G => ?_)
      have hz26 := hp25
      rw [hz26] at G
      exact RET G rfl rfl dX10_count_155
    · refine lv_tableIn (off := 155) (tgt := 156) E.1 E.2.1 dX10_count_1 (by rw [ee9]; decide) (by rw [ee9]; decide) (by rw [ee9]; decide) (by decide) ?_
      refine lv_aload_n E.1 E.2.1 dX10_count_156 rfl (lv_at hl 0 rfl) ?_
      refine t_get E G 10 7 (rfl : ro 0 = 10) (C := RX10) (T := TX10) (N := 17) rfl (by decide) (by decide) (by decide) mw_fl_10_55 (v := .ref (ad 56)) (fvl_o (n := 56) rfl) dX10_count_157 ?_
      refine t_get E G 2 1 (rfl : ro 56 = 2) (C := RX2) (T := TX2) (N := 5) rfl (by decide) (by decide) (by decide) mw_fl_10_121 (v := .ref (ad 70)) (fvl_o (n := 14) rfl) dX10_count_160 ?_
      refine lv_aload_n E.1 E.2.1 dX10_count_163 rfl (lv_at hl 0 rfl) ?_
      refine t_get E G 10 7 (rfl : ro 0 = 10) (C := RX10) (T := TX10) (N := 17) rfl (by decide) (by decide) (by decide) mw_fl_10_55 (v := .ref (ad 56)) (fvl_o (n := 56) rfl) dX10_count_164 ?_
      refine t_get E G 2 0 (rfl : ro 56 = 2) (C := RX2) (T := TX2) (N := 5) rfl (by decide) (by decide) (by decide) mw_fl_10_114 (v := .ref (ad 57)) (fvl_o (n := 1) rfl) dX10_count_167 ?_
      refine t_get E G 8 3 (rfl : ro 57 = 8) (C := RX8) (T := TX8) (N := 10) rfl (by decide) (by decide) (by decide) mw_fl_10_140 (fvl_i rfl) dX10_count_170 ?_
      refine lv_topi (fun v27 e28 => ?_)
      have b29 : iv 0 5 v27 := by rw [e28]; exact o.i 8 3 (rfl : ro 57 = 8)
      refine t_vi E G hl (s_all l D K ad z o 70 (by decide : at_ 6 70 = true) v27 (iv_mono b29 (by decide) (by decide))) 6 (rfl : ro 70 = 6) (by decide) rfl rfl 1 rfl mw_code_X6_allCharges mw_ini_6 mw_ml_10_211 mw_inst_X6_allCharges mw_sel_X6_allCharges hd_X6_allCharges ⟨Nat.le_trans (by decide) hfr, Nat.le_trans (by decide) hlo⟩ rfl rfl rfl (Nat.le_of_ble_eq_true rfl) dX10_count_173 (fun r31 zz30 H locs hp32 G => ?_)
      have hz33 := hp32
      rw [hz33] at G
      exact RET G rfl rfl dX10_count_176
    · refine lv_tableIn (off := 176) (tgt := 177) E.1 E.2.1 dX10_count_1 (by rw [ee10]; decide) (by rw [ee10]; decide) (by rw [ee10]; decide) (by decide) ?_
      refine lv_aload_n E.1 E.2.1 dX10_count_177 rfl (lv_at hl 0 rfl) ?_
      refine t_get E G 10 7 (rfl : ro 0 = 10) (C := RX10) (T := TX10) (N := 17) rfl (by decide) (by decide) (by decide) mw_fl_10_55 (v := .ref (ad 56)) (fvl_o (n := 56) rfl) dX10_count_178 ?_
      refine t_get E G 2 2 (rfl : ro 56 = 2) (C := RX2) (T := TX2) (N := 5) rfl (by decide) (by decide) (by decide) mw_fl_10_130 (v := .ref (ad 77)) (fvl_o (n := 21) rfl) dX10_count_181 ?_
      refine t_get E G 3 0 (rfl : ro 77 = 3) (C := RX3) (T := TX3) (N := 4) rfl (by decide) (by decide) (by decide) mw_fl_10_134 (fvl_i rfl) dX10_count_184 ?_
      refine lv_topi (fun v34 e35 => ?_)
      have b36 : iv 0 10 v34 := by rw [e35]; exact o.i 3 0 (rfl : ro 77 = 3)
      exact RET G rfl rfl dX10_count_187
    · refine lv_tableIn (off := 187) (tgt := 188) E.1 E.2.1 dX10_count_1 (by rw [ee11]; decide) (by rw [ee11]; decide) (by rw [ee11]; decide) (by decide) ?_
      refine lv_aload_n E.1 E.2.1 dX10_count_188 rfl (lv_at hl 0 rfl) ?_
      refine t_get E G 10 10 (rfl : ro 0 = 10) (C := RX10) (T := TX10) (N := 17) rfl (by decide) (by decide) (by decide) mw_fl_10_69 (v := .ref (ad 182)) (fvl_o (n := 182) rfl) dX10_count_189 ?_
      refine t_get E G 0 0 (rfl : ro 182 = 0) (C := RX0) (T := TX0) (N := 3) rfl (by decide) (by decide) (by decide) mw_fl_10_215 (fvl_i rfl) dX10_count_192 ?_
      refine lv_topi (fun v37 e38 => ?_)
      exact RET G rfl rfl dX10_count_195
    · refine lv_tableIn (off := 195) (tgt := 196) E.1 E.2.1 dX10_count_1 (by rw [ee12]; decide) (by rw [ee12]; decide) (by rw [ee12]; decide) (by decide) ?_
      refine lv_aload_n E.1 E.2.1 dX10_count_196 rfl (lv_at hl 0 rfl) ?_
      refine t_get E G 10 7 (rfl : ro 0 = 10) (C := RX10) (T := TX10) (N := 17) rfl (by decide) (by decide) (by decide) mw_fl_10_55 (v := .ref (ad 56)) (fvl_o (n := 56) rfl) dX10_count_197 ?_
      refine t_get E G 2 4 (rfl : ro 56 = 2) (C := RX2) (T := TX2) (N := 5) rfl (by decide) (by decide) (by decide) mw_fl_10_216 (fvl_i rfl) dX10_count_200 ?_
      refine lv_topi (fun v39 e40 => ?_)
      have b41 : iv 0 2147483647 v39 := by rw [e40]; exact o.i 2 4 (rfl : ro 56 = 2)
      exact RET G rfl rfl dX10_count_203
    · refine lv_tableIn (off := 203) (tgt := 204) E.1 E.2.1 dX10_count_1 (by rw [ee13]; decide) (by rw [ee13]; decide) (by rw [ee13]; decide) (by decide) ?_
      refine lv_aload_n E.1 E.2.1 dX10_count_204 rfl (lv_at hl 0 rfl) ?_
      refine t_get E G 10 0 (rfl : ro 0 = 10) (C := RX10) (T := TX10) (N := 17) rfl (by decide) (by decide) (by decide) mw_fl_10_10 (v := .ref (ad 1)) (fvl_o (n := 1) rfl) dX10_count_205 ?_
      refine t_get E G 7 1 (rfl : ro 1 = 7) (C := RX7) (T := TX7) (N := 7) rfl (by decide) (by decide) (by decide) mw_fl_10_100 (fvl_i rfl) dX10_count_208 ?_
      refine lv_topi (fun v42 e43 => ?_)
      have b44 : iv 0 400 v42 := by rw [e43]; exact o.i 7 1 (rfl : ro 1 = 7)
      exact RET G rfl rfl dX10_count_211
set_option maxHeartbeats 4000000 in
set_option maxRecDepth 100000 in
theorem k_step (l : Launch) (D : va_G) (K : Nat → ClassId) (ad : Nat → Nat) (z : TS) (o : Ok z) : cI l yX10_step cX10_step 2 .int ({ frames := 5, cells := 0, slots := 0, locals := 124 }) D K ad z [.ref (ad 0)] (fun r u => Ok u ∧ KC z u) := by
  refine t_enterI (by decide) (Nat.le_of_ble_eq_true rfl) rfl rfl ?_
  intro p e s m args below meth c A R Q H locs ls E hfr hlo RET G hl
  have E : mE p s m meth c cX10_step args 2 RX10 D K A := E
  have hl : lv_has ls 2 [(0, .ref (ad 0))] := hl
  refine lv_aload_n E.1 E.2.1 dX10_step_0 rfl (lv_at hl 0 rfl) ?_
  refine t_vi E G hl (h_town l D K ad z o) 10 (rfl : ro 0 = 10) (by decide) rfl rfl 0 rfl mw_code_X10_hasTown mw_ini_10 mw_ml_10_219 mw_inst_X10_hasTown mw_sel_X10_hasTown hd_X10_hasTown ⟨Nat.le_trans (by decide) hfr, Nat.le_trans (by decide) hlo⟩ rfl rfl rfl (Nat.le_of_ble_eq_true rfl) dX10_step_1 (fun r2 zz1 H locs hp3 G => ?_)
  obtain ⟨hz5, b4⟩ := hp3
  rw [hz5] at G
  refine lv_if_eq (tgt := 23) E.1 E.2.1 dX10_step_4 (by decide) (fun c6 => ?_) (fun c6 => ?_)
  · skip
    have b7 : iv 0 0 r2 := iv_eq c6 (iv_lit (lo := 0) (hi := 0) 0 (by decide) (by decide))
    refine lv_iconst (v := (-1)) E.1 E.2.1 dX10_step_23 (by decide) ?_
    exact RET G ⟨o, KC.rf⟩ rfl dX10_step_24
  · skip
    have b8 : iv 1 1 r2 := ne_lo c6 b4 (by decide) (by decide)
    refine lv_aload_n E.1 E.2.1 dX10_step_7 rfl (lv_at hl 0 rfl) ?_
    refine t_get E G 10 7 (rfl : ro 0 = 10) (C := RX10) (T := TX10) (N := 17) rfl (by decide) (by decide) (by decide) mw_fl_10_55 (v := .ref (ad 56)) (fvl_o (n := 56) rfl) dX10_step_8 ?_
    refine t_get E G 2 1 (rfl : ro 56 = 2) (C := RX2) (T := TX2) (N := 5) rfl (by decide) (by decide) (by decide) mw_fl_10_121 (v := .ref (ad 70)) (fvl_o (n := 14) rfl) dX10_step_11 ?_
    refine t_get E G 6 7 (rfl : ro 70 = 6) (C := RX6) (T := TX6) (N := 8) rfl (by decide) (by decide) (by decide) mw_fl_10_201 (fvl_i rfl) dX10_step_14 ?_
    refine lv_topi (fun v9 e10 => ?_)
    refine lv_sipush (v := 999) E.1 E.2.1 dX10_step_17 (by decide) ?_
    refine lv_icmp_lt (tgt := 25) E.1 E.2.1 dX10_step_20 (by decide) (fun c11 => ?_) (fun c11 => ?_)
    · skip
      have b12 : iv (-2147483648) 998 v9 := lt_l c11 (iv_full v9) (iv_lit (lo := 999) (hi := 999) 999 (by decide) (by decide)) (by decide)
      refine lv_aload_n E.1 E.2.1 dX10_step_25 rfl (lv_at hl 0 rfl) ?_
      refine t_get E G 10 10 (rfl : ro 0 = 10) (C := RX10) (T := TX10) (N := 17) rfl (by decide) (by decide) (by decide) mw_fl_10_69 (v := .ref (ad 182)) (fvl_o (n := 182) rfl) dX10_step_26 ?_
      refine lv_aload_n E.1 E.2.1 dX10_step_29 rfl (lv_at hl 0 rfl) ?_
      refine t_get E G 10 7 (rfl : ro 0 = 10) (C := RX10) (T := TX10) (N := 17) rfl (by decide) (by decide) (by decide) mw_fl_10_55 (v := .ref (ad 56)) (fvl_o (n := 56) rfl) dX10_step_30 ?_
      refine t_get E G 2 1 (rfl : ro 56 = 2) (C := RX2) (T := TX2) (N := 5) rfl (by decide) (by decide) (by decide) mw_fl_10_121 (v := .ref (ad 70)) (fvl_o (n := 14) rfl) dX10_step_33 ?_
      refine t_vv E G hl (a_keep l D K ad z o 70 (by decide : at_ 6 70 = true)) 0 (rfl : ro 182 = 0) (by decide) rfl rfl 1 rfl mw_code_X0_keep mw_ini_0 mw_ml_10_223 mw_inst_X0_keep mw_sel_X0_keep hd_X0_keep ⟨Nat.le_trans (by decide) hfr, Nat.le_trans (by decide) hlo⟩ rfl rfl rfl (Nat.le_of_ble_eq_true rfl) dX10_step_36 (fun zz13 H locs hp15 G => ?_)
      obtain ⟨oo16, kk17⟩ := hp15
      have kk18 : KC z zz13 := KC.tr KC.rf kk17
      refine lv_aload_n E.1 E.2.1 dX10_step_39 rfl (lv_at hl 0 rfl) ?_
      refine t_vv E G hl (k_startNow l D K ad zz13 oo16) 10 (rfl : ro 0 = 10) (by decide) rfl rfl 0 rfl mw_code_X10_startNow mw_ini_10 mw_ml_10_226 mw_inst_X10_startNow mw_sel_X10_startNow hd_X10_startNow ⟨Nat.le_trans (by decide) hfr, Nat.le_trans (by decide) hlo⟩ rfl rfl rfl (Nat.le_of_ble_eq_true rfl) dX10_step_40 (fun zz19 H locs hp21 G => ?_)
      obtain ⟨oo22, kk23⟩ := hp21
      have kk24 : KC z zz19 := KC.tr kk18 kk23
      refine lv_aload_n E.1 E.2.1 dX10_step_43 rfl (lv_at hl 0 rfl) ?_
      refine t_get E G 10 11 (rfl : ro 0 = 10) (C := RX10) (T := TX10) (N := 17) rfl (by decide) (by decide) (by decide) mw_fl_10_76 (v := .ref (ad 324)) (fvl_o (n := 324) rfl) dX10_step_44 ?_
      refine t_vi E G hl (c_goStep l D K ad zz19 oo22) 1 (rfl : ro 324 = 1) (by decide) rfl rfl 0 rfl mw_code_X1_goStep mw_ini_1 mw_ml_10_229 mw_inst_X1_goStep mw_sel_X1_goStep hd_X1_goStep ⟨Nat.le_trans (by decide) hfr, Nat.le_trans (by decide) hlo⟩ rfl rfl rfl (Nat.le_of_ble_eq_true rfl) dX10_step_47 (fun r26 zz25 H locs hp27 G => ?_)
      obtain ⟨oo28, kk29⟩ := hp27
      have kk30 : KC z zz25 := KC.tr kk24 kk29
      refine lv_istore_n (lv' := [(1, .int r26), (0, .ref (ad 0))]) E.1 E.2.1 dX10_step_50 rfl hl (by decide) rfl (fun ls hl => ?_)
      refine lv_aload_n E.1 E.2.1 dX10_step_51 rfl (lv_at hl 1 rfl) ?_
      refine t_get E G 10 7 (rfl : ro 0 = 10) (C := RX10) (T := TX10) (N := 17) rfl (by decide) (by decide) (by decide) mw_fl_10_55 (v := .ref (ad 56)) (fvl_o (n := 56) rfl) dX10_step_52 ?_
      refine t_get E G 2 1 (rfl : ro 56 = 2) (C := RX2) (T := TX2) (N := 5) rfl (by decide) (by decide) (by decide) mw_fl_10_121 (v := .ref (ad 70)) (fvl_o (n := 14) rfl) dX10_step_55 ?_
      refine lv_aload_n E.1 E.2.1 dX10_step_58 rfl (lv_at hl 1 rfl) ?_
      refine t_get E G 10 11 (rfl : ro 0 = 10) (C := RX10) (T := TX10) (N := 17) rfl (by decide) (by decide) (by decide) mw_fl_10_76 (v := .ref (ad 324)) (fvl_o (n := 324) rfl) dX10_step_59 ?_
      refine t_get E G 1 0 (rfl : ro 324 = 1) (C := RX1) (T := TX1) (N := 6) rfl (by decide) (by decide) (by decide) mw_fl_10_232 (v := .ref (ad 325)) (fvl_o (n := 1) rfl) dX10_step_62 ?_
      refine t_vv E G hl (s_copy l D K ad zz25 oo28 70 (by decide : at_ 6 70 = true) 325 (by decide : at_ 6 325 = true)) 6 (rfl : ro 70 = 6) (by decide) rfl rfl 1 rfl mw_code_X6_copyFrom mw_ini_6 mw_ml_10_127 mw_inst_X6_copyFrom mw_sel_X6_copyFrom hd_X6_copyFrom ⟨Nat.le_trans (by decide) hfr, Nat.le_trans (by decide) hlo⟩ rfl rfl rfl (Nat.le_of_ble_eq_true rfl) dX10_step_65 (fun zz31 H locs hp33 G => ?_)
      obtain ⟨oo34, kk35⟩ := hp33
      have kk36 : KC z zz31 := KC.tr kk30 kk35
      refine lv_iload_n E.1 E.2.1 dX10_step_68 rfl (lv_at hl 0 rfl) ?_
      exact RET G ⟨oo34, kk36⟩ rfl dX10_step_69
    · skip
      have b37 : iv 999 2147483647 v9 := le_r (Int32.not_lt.mp c11) (iv_lit (lo := 999) (hi := 999) 999 (by decide) (by decide)) (iv_full v9) (by decide)
      refine lv_iconst (v := (-1)) E.1 E.2.1 dX10_step_23 (by decide) ?_
      exact RET G ⟨o, KC.rf⟩ rfl dX10_step_24
set_option maxHeartbeats 4000000 in
set_option maxRecDepth 100000 in
theorem k_ahead (l : Launch) (D : va_G) (K : Nat → ClassId) (ad : Nat → Nat) (z : TS) (o : Ok z) (x1 : Int32) (x2 : Int32) (x3 : Int32) : cI l yX10_ahead cX10_ahead 4 .int ({ frames := 6, cells := 0, slots := 0, locals := 146 }) D K ad z [.ref (ad 0), .int x1, .int x2, .int x3] (fun r u => Ok u ∧ KC z u) := by
  refine t_enterI (by decide) (Nat.le_of_ble_eq_true rfl) rfl rfl ?_
  intro p e s m args below meth c A R Q H locs ls E hfr hlo RET G hl
  have E : mE p s m meth c cX10_ahead args 4 RX10 D K A := E
  have hl : lv_has ls 4 [(0, .ref (ad 0)), (1, .int x1), (2, .int x2), (3, .int x3)] := hl
  refine lv_aload_n E.1 E.2.1 dX10_ahead_0 rfl (lv_at hl 0 rfl) ?_
  refine t_vi E G hl (h_town l D K ad z o) 10 (rfl : ro 0 = 10) (by decide) rfl rfl 0 rfl mw_code_X10_hasTown mw_ini_10 mw_ml_10_219 mw_inst_X10_hasTown mw_sel_X10_hasTown hd_X10_hasTown ⟨Nat.le_trans (by decide) hfr, Nat.le_trans (by decide) hlo⟩ rfl rfl rfl (Nat.le_of_ble_eq_true rfl) dX10_ahead_1 (fun r2 zz1 H locs hp3 G => ?_)
  obtain ⟨hz5, b4⟩ := hp3
  rw [hz5] at G
  refine lv_if_eq (tgt := 26) E.1 E.2.1 dX10_ahead_4 (by decide) (fun c6 => ?_) (fun c6 => ?_)
  · skip
    have b7 : iv 0 0 r2 := iv_eq c6 (iv_lit (lo := 0) (hi := 0) 0 (by decide) (by decide))
    refine lv_iconst (v := (-1)) E.1 E.2.1 dX10_ahead_26 (by decide) ?_
    exact RET G ⟨o, KC.rf⟩ rfl dX10_ahead_27
  · skip
    have b8 : iv 1 1 r2 := ne_lo c6 b4 (by decide) (by decide)
    refine lv_iload_n E.1 E.2.1 dX10_ahead_7 rfl (lv_at hl 2 rfl) ?_
    refine lv_if_lt (tgt := 26) E.1 E.2.1 dX10_ahead_8 (by decide) (fun c9 => ?_) (fun c9 => ?_)
    · skip
      have b10 : iv (-2147483648) (-1) x2 := lt_l c9 (iv_full x2) (iv_lit (lo := 0) (hi := 0) 0 (by decide) (by decide)) (by decide)
      refine lv_iconst (v := (-1)) E.1 E.2.1 dX10_ahead_26 (by decide) ?_
      exact RET G ⟨o, KC.rf⟩ rfl dX10_ahead_27
    · skip
      have b11 : iv 0 2147483647 x2 := le_r (Int32.not_lt.mp c9) (iv_lit (lo := 0) (hi := 0) 0 (by decide) (by decide)) (iv_full x2) (by decide)
      refine lv_iload_n E.1 E.2.1 dX10_ahead_11 rfl (lv_at hl 2 rfl) ?_
      refine lv_bipush (v := 100) E.1 E.2.1 dX10_ahead_12 (by decide) ?_
      refine lv_icmp_gt (tgt := 26) E.1 E.2.1 dX10_ahead_14 (by decide) (fun c12 => ?_) (fun c12 => ?_)
      · skip
        have b13 : iv 101 2147483647 x2 := lt_r c12 (iv_lit (lo := 100) (hi := 100) 100 (by decide) (by decide)) b11 (by decide)
        refine lv_iconst (v := (-1)) E.1 E.2.1 dX10_ahead_26 (by decide) ?_
        exact RET G ⟨o, KC.rf⟩ rfl dX10_ahead_27
      · skip
        have b14 : iv 0 100 x2 := le_l (Int32.not_lt.mp c12) b11 (iv_lit (lo := 100) (hi := 100) 100 (by decide) (by decide)) (by decide)
        refine lv_iload_n E.1 E.2.1 dX10_ahead_17 rfl (lv_at hl 3 rfl) ?_
        refine lv_if_lt (tgt := 26) E.1 E.2.1 dX10_ahead_18 (by decide) (fun c15 => ?_) (fun c15 => ?_)
        · skip
          have b16 : iv (-2147483648) (-1) x3 := lt_l c15 (iv_full x3) (iv_lit (lo := 0) (hi := 0) 0 (by decide) (by decide)) (by decide)
          refine lv_iconst (v := (-1)) E.1 E.2.1 dX10_ahead_26 (by decide) ?_
          exact RET G ⟨o, KC.rf⟩ rfl dX10_ahead_27
        · skip
          have b17 : iv 0 2147483647 x3 := le_r (Int32.not_lt.mp c15) (iv_lit (lo := 0) (hi := 0) 0 (by decide) (by decide)) (iv_full x3) (by decide)
          refine lv_iload_n E.1 E.2.1 dX10_ahead_21 rfl (lv_at hl 3 rfl) ?_
          refine lv_iconst (v := 2) E.1 E.2.1 dX10_ahead_22 (by decide) ?_
          refine lv_icmp_le (tgt := 28) E.1 E.2.1 dX10_ahead_23 (by decide) (fun c18 => ?_) (fun c18 => ?_)
          · skip
            have b19 : iv 0 2 x3 := le_l c18 b17 (iv_lit (lo := 2) (hi := 2) 2 (by decide) (by decide)) (by decide)
            refine lv_iload_n E.1 E.2.1 dX10_ahead_28 rfl (lv_at hl 3 rfl) ?_
            refine lv_iconst (v := 2) E.1 E.2.1 dX10_ahead_29 (by decide) ?_
            refine lv_icmp_eq (tgt := 43) E.1 E.2.1 dX10_ahead_30 (by decide) (fun c20 => ?_) (fun c20 => ?_)
            · skip
              have b21 : iv 2 2 x3 := iv_eq c20 (iv_lit (lo := 2) (hi := 2) 2 (by decide) (by decide))
              refine lv_aload_n E.1 E.2.1 dX10_ahead_43 rfl (lv_at hl 0 rfl) ?_
              refine t_vv E G hl (k_startNow l D K ad z o) 10 (rfl : ro 0 = 10) (by decide) rfl rfl 0 rfl mw_code_X10_startNow mw_ini_10 mw_ml_10_226 mw_inst_X10_startNow mw_sel_X10_startNow hd_X10_startNow ⟨Nat.le_trans (by decide) hfr, Nat.le_trans (by decide) hlo⟩ rfl rfl rfl (Nat.le_of_ble_eq_true rfl) dX10_ahead_44 (fun zz22 H locs hp24 G => ?_)
              obtain ⟨oo25, kk26⟩ := hp24
              have kk27 : KC z zz22 := KC.tr KC.rf kk26
              refine lv_aload_n E.1 E.2.1 dX10_ahead_47 rfl (lv_at hl 0 rfl) ?_
              refine t_get E G 10 11 (rfl : ro 0 = 10) (C := RX10) (T := TX10) (N := 17) rfl (by decide) (by decide) (by decide) mw_fl_10_76 (v := .ref (ad 324)) (fvl_o (n := 324) rfl) dX10_ahead_48 ?_
              refine lv_iload_n E.1 E.2.1 dX10_ahead_51 rfl (lv_at hl 2 rfl) ?_
              refine t_vv E G hl (c_goSteps l D K ad zz22 oo25 x2 (iv_mono b14 (by decide) (by decide))) 1 (rfl : ro 324 = 1) (by decide) rfl rfl 1 rfl mw_code_X1_goSteps mw_ini_1 mw_ml_10_242 mw_inst_X1_goSteps mw_sel_X1_goSteps hd_X1_goSteps ⟨Nat.le_trans (by decide) hfr, Nat.le_trans (by decide) hlo⟩ rfl rfl rfl (Nat.le_of_ble_eq_true rfl) dX10_ahead_52 (fun zz28 H locs hp30 G => ?_)
              obtain ⟨oo31, kk32⟩ := hp30
              have kk33 : KC z zz28 := KC.tr kk27 kk32
              refine lv_iload_n E.1 E.2.1 dX10_ahead_55 rfl (lv_at hl 3 rfl) ?_
              refine lv_iconst (v := 2) E.1 E.2.1 dX10_ahead_56 (by decide) ?_
              refine lv_icmp_ne (tgt := 71) E.1 E.2.1 dX10_ahead_57 (by decide) (fun h => absurd c20 h) (fun _ => ?_)
              refine lv_aload_n E.1 E.2.1 dX10_ahead_60 rfl (lv_at hl 0 rfl) ?_
              refine t_get E G 10 11 (rfl : ro 0 = 10) (C := RX10) (T := TX10) (N := 17) rfl (by decide) (by decide) (by decide) mw_fl_10_76 (v := .ref (ad 324)) (fvl_o (n := 324) rfl) dX10_ahead_61 ?_
              refine t_get E G 1 0 (rfl : ro 324 = 1) (C := RX1) (T := TX1) (N := 6) rfl (by decide) (by decide) (by decide) mw_fl_10_232 (v := .ref (ad 325)) (fvl_o (n := 1) rfl) dX10_ahead_64 ?_
              refine t_get E G 6 6 (rfl : ro 325 = 6) (C := RX6) (T := TX6) (N := 8) rfl (by decide) (by decide) (by decide) mw_fl_10_204 (fvl_i rfl) dX10_ahead_67 ?_
              refine lv_topi (fun v34 e35 => ?_)
              exact RET G ⟨oo31, kk33⟩ rfl dX10_ahead_70
            · skip
              have b36 : iv 0 1 x3 := ne_hi c20 b19 (by decide) (by decide)
              refine lv_aload_n E.1 E.2.1 dX10_ahead_33 rfl (lv_at hl 0 rfl) ?_
              refine lv_iload_n E.1 E.2.1 dX10_ahead_34 rfl (lv_at hl 1 rfl) ?_
              refine t_vi E G hl (h_walker l D K ad z o x1) 10 (rfl : ro 0 = 10) (by decide) rfl rfl 1 rfl mw_code_X10_hasWalker mw_ini_10 mw_ml_10_168 mw_inst_X10_hasWalker mw_sel_X10_hasWalker hd_X10_hasWalker ⟨Nat.le_trans (by decide) hfr, Nat.le_trans (by decide) hlo⟩ rfl rfl rfl (Nat.le_of_ble_eq_true rfl) dX10_ahead_35 (fun r38 zz37 H locs hp39 G => ?_)
              obtain ⟨hz42, b40, h41⟩ := hp39
              rw [hz42] at G
              refine lv_if_ne (tgt := 43) E.1 E.2.1 dX10_ahead_38 (by decide) (fun c43 => ?_) (fun c43 => ?_)
              · skip
                have b44 : iv 1 1 r38 := ne_lo c43 b40 (by decide) (by decide)
                have b45 : iv 0 4 x1 := h41 c43
                refine lv_aload_n E.1 E.2.1 dX10_ahead_43 rfl (lv_at hl 0 rfl) ?_
                refine t_vv E G hl (k_startNow l D K ad z o) 10 (rfl : ro 0 = 10) (by decide) rfl rfl 0 rfl mw_code_X10_startNow mw_ini_10 mw_ml_10_226 mw_inst_X10_startNow mw_sel_X10_startNow hd_X10_startNow ⟨Nat.le_trans (by decide) hfr, Nat.le_trans (by decide) hlo⟩ rfl rfl rfl (Nat.le_of_ble_eq_true rfl) dX10_ahead_44 (fun zz46 H locs hp48 G => ?_)
                obtain ⟨oo49, kk50⟩ := hp48
                have kk51 : KC z zz46 := KC.tr KC.rf kk50
                refine lv_aload_n E.1 E.2.1 dX10_ahead_47 rfl (lv_at hl 0 rfl) ?_
                refine t_get E G 10 11 (rfl : ro 0 = 10) (C := RX10) (T := TX10) (N := 17) rfl (by decide) (by decide) (by decide) mw_fl_10_76 (v := .ref (ad 324)) (fvl_o (n := 324) rfl) dX10_ahead_48 ?_
                refine lv_iload_n E.1 E.2.1 dX10_ahead_51 rfl (lv_at hl 2 rfl) ?_
                refine t_vv E G hl (c_goSteps l D K ad zz46 oo49 x2 (iv_mono b14 (by decide) (by decide))) 1 (rfl : ro 324 = 1) (by decide) rfl rfl 1 rfl mw_code_X1_goSteps mw_ini_1 mw_ml_10_242 mw_inst_X1_goSteps mw_sel_X1_goSteps hd_X1_goSteps ⟨Nat.le_trans (by decide) hfr, Nat.le_trans (by decide) hlo⟩ rfl rfl rfl (Nat.le_of_ble_eq_true rfl) dX10_ahead_52 (fun zz52 H locs hp54 G => ?_)
                obtain ⟨oo55, kk56⟩ := hp54
                have kk57 : KC z zz52 := KC.tr kk51 kk56
                refine lv_iload_n E.1 E.2.1 dX10_ahead_55 rfl (lv_at hl 3 rfl) ?_
                refine lv_iconst (v := 2) E.1 E.2.1 dX10_ahead_56 (by decide) ?_
                refine lv_icmp_ne (tgt := 71) E.1 E.2.1 dX10_ahead_57 (by decide) (fun _ => ?_) (fun h => absurd h (ivne1 b36 (iv_lit (lo := 2) (hi := 2) 2 (by decide) (by decide)) (by decide)))
                refine lv_iload_n E.1 E.2.1 dX10_ahead_71 rfl (lv_at hl 3 rfl) ?_
                refine lv_if_ne (tgt := 90) E.1 E.2.1 dX10_ahead_72 (by decide) (fun c58 => ?_) (fun c58 => ?_)
                · skip
                  have b59 : iv 1 1 x3 := ne_lo c58 b36 (by decide) (by decide)
                  refine lv_aload_n E.1 E.2.1 dX10_ahead_90 rfl (lv_at hl 0 rfl) ?_
                  refine t_get E G 10 11 (rfl : ro 0 = 10) (C := RX10) (T := TX10) (N := 17) rfl (by decide) (by decide) (by decide) mw_fl_10_76 (v := .ref (ad 324)) (fvl_o (n := 324) rfl) dX10_ahead_91 ?_
                  refine t_get E G 1 0 (rfl : ro 324 = 1) (C := RX1) (T := TX1) (N := 6) rfl (by decide) (by decide) (by decide) mw_fl_10_232 (v := .ref (ad 325)) (fvl_o (n := 1) rfl) dX10_ahead_94 ?_
                  refine t_get E G 6 3 (rfl : ro 325 = 6) (C := RX6) (T := TX6) (N := 8) rfl (by decide) (by decide) (by decide) mw_fl_10_183 (v := .ref (ad 329)) (fvl_o (n := 4) rfl) dX10_ahead_97 ?_
                  refine lv_iload_n E.1 E.2.1 dX10_ahead_100 rfl (lv_at hl 1 rfl) ?_
                  refine t_iald E G 22 (rfl : ro 329 = 22) (by decide) (by decide) rfl (n := 5) rfl (iv_vp b45 (by decide) (by decide)) dX10_ahead_101 ?_
                  refine lv_topi (fun v60 e61 => ?_)
                  exact RET G ⟨oo55, kk57⟩ rfl dX10_ahead_102
                · skip
                  have b62 : iv 0 0 x3 := iv_eq c58 (iv_lit (lo := 0) (hi := 0) 0 (by decide) (by decide))
                  refine lv_aload_n E.1 E.2.1 dX10_ahead_75 rfl (lv_at hl 0 rfl) ?_
                  refine t_get E G 10 11 (rfl : ro 0 = 10) (C := RX10) (T := TX10) (N := 17) rfl (by decide) (by decide) (by decide) mw_fl_10_76 (v := .ref (ad 324)) (fvl_o (n := 324) rfl) dX10_ahead_76 ?_
                  refine t_get E G 1 0 (rfl : ro 324 = 1) (C := RX1) (T := TX1) (N := 6) rfl (by decide) (by decide) (by decide) mw_fl_10_232 (v := .ref (ad 325)) (fvl_o (n := 1) rfl) dX10_ahead_79 ?_
                  refine t_get E G 6 0 (rfl : ro 325 = 6) (C := RX6) (T := TX6) (N := 8) rfl (by decide) (by decide) (by decide) mw_fl_10_171 (v := .ref (ad 326)) (fvl_o (n := 1) rfl) dX10_ahead_82 ?_
                  refine lv_iload_n E.1 E.2.1 dX10_ahead_85 rfl (lv_at hl 1 rfl) ?_
                  refine t_iald E G 21 (rfl : ro 326 = 21) (by decide) (by decide) rfl (n := 5) rfl (iv_vp b45 (by decide) (by decide)) dX10_ahead_86 ?_
                  refine lv_topi (fun v63 e64 => ?_)
                  have b65 : iv 0 7 v63 := by rw [e64]; exact oo55.ac 21 (rfl : ro 326 = 21) (by decide) _
                  refine lv_goto (tgt := 102) E.1 E.2.1 dX10_ahead_87 (by decide) ?_
                  exact RET G ⟨oo55, kk57⟩ rfl dX10_ahead_102
              · skip
                have b66 : iv 0 0 r38 := iv_eq c43 (iv_lit (lo := 0) (hi := 0) 0 (by decide) (by decide))
                refine lv_iconst (v := (-1)) E.1 E.2.1 dX10_ahead_41 (by decide) ?_
                exact RET G ⟨o, KC.rf⟩ rfl dX10_ahead_42
          · skip
            have b67 : iv 3 2147483647 x3 := lt_r (Int32.not_le.mp c18) (iv_lit (lo := 2) (hi := 2) 2 (by decide) (by decide)) b17 (by decide)
            refine lv_iconst (v := (-1)) E.1 E.2.1 dX10_ahead_26 (by decide) ?_
            exact RET G ⟨o, KC.rf⟩ rfl dX10_ahead_27
set_option maxHeartbeats 4000000 in
set_option maxRecDepth 100000 in
theorem k_pence (l : Launch) (D : va_G) (K : Nat → ClassId) (ad : Nat → Nat) (z : TS) (o : Ok z) (x1 : Int32) (x2 : Int32) : cI l yX10_pence cX10_pence 9 .int ({ frames := 1, cells := 0, slots := 0, locals := 23 }) D K ad z [.ref (ad 0), .int x1, .int x2] (fun r u => u = z) := by
  refine t_enterI (by decide) (Nat.le_of_ble_eq_true rfl) rfl rfl ?_
  intro p e s m args below meth c A R Q H locs ls E hfr hlo RET G hl
  have E : mE p s m meth c cX10_pence args 9 RX10 D K A := E
  have hl : lv_has ls 9 [(0, .ref (ad 0)), (1, .int x1), (2, .int x2)] := hl
  refine lv_aload_n E.1 E.2.1 dX10_pence_0 rfl (lv_at hl 0 rfl) ?_
  refine lv_iload_n E.1 E.2.1 dX10_pence_1 rfl (lv_at hl 2 rfl) ?_
  refine t_vi E G hl (h_walker l D K ad z o x2) 10 (rfl : ro 0 = 10) (by decide) rfl rfl 1 rfl mw_code_X10_hasWalker mw_ini_10 mw_ml_10_168 mw_inst_X10_hasWalker mw_sel_X10_hasWalker hd_X10_hasWalker ⟨Nat.le_trans (by decide) hfr, Nat.le_trans (by decide) hlo⟩ rfl rfl rfl (Nat.le_of_ble_eq_true rfl) dX10_pence_2 (fun r2 zz1 H locs hp3 G => ?_)
  obtain ⟨hz6, b4, h5⟩ := hp3
  rw [hz6] at G
  refine lv_if_eq (tgt := 19) E.1 E.2.1 dX10_pence_5 (by decide) (fun c7 => ?_) (fun c7 => ?_)
  · skip
    have b8 : iv 0 0 r2 := iv_eq c7 (iv_lit (lo := 0) (hi := 0) 0 (by decide) (by decide))
    refine lv_iconst (v := (-1)) E.1 E.2.1 dX10_pence_19 (by decide) ?_
    exact RET G rfl rfl dX10_pence_20
  · skip
    have b9 : iv 1 1 r2 := ne_lo c7 b4 (by decide) (by decide)
    have b10 : iv 0 4 x2 := h5 c7
    refine lv_iload_n E.1 E.2.1 dX10_pence_8 rfl (lv_at hl 1 rfl) ?_
    refine lv_if_lt (tgt := 19) E.1 E.2.1 dX10_pence_9 (by decide) (fun c11 => ?_) (fun c11 => ?_)
    · skip
      have b12 : iv (-2147483648) (-1) x1 := lt_l c11 (iv_full x1) (iv_lit (lo := 0) (hi := 0) 0 (by decide) (by decide)) (by decide)
      refine lv_iconst (v := (-1)) E.1 E.2.1 dX10_pence_19 (by decide) ?_
      exact RET G rfl rfl dX10_pence_20
    · skip
      have b13 : iv 0 2147483647 x1 := le_r (Int32.not_lt.mp c11) (iv_lit (lo := 0) (hi := 0) 0 (by decide) (by decide)) (iv_full x1) (by decide)
      refine lv_iload_n E.1 E.2.1 dX10_pence_12 rfl (lv_at hl 1 rfl) ?_
      refine lv_sipush (v := 9999) E.1 E.2.1 dX10_pence_13 (by decide) ?_
      refine lv_icmp_le (tgt := 21) E.1 E.2.1 dX10_pence_16 (by decide) (fun c14 => ?_) (fun c14 => ?_)
      · skip
        have b15 : iv 0 9999 x1 := le_l c14 b13 (iv_lit (lo := 9999) (hi := 9999) 9999 (by decide) (by decide)) (by decide)
        refine lv_aload_n E.1 E.2.1 dX10_pence_21 rfl (lv_at hl 0 rfl) ?_
        refine t_get E G 10 7 (rfl : ro 0 = 10) (C := RX10) (T := TX10) (N := 17) rfl (by decide) (by decide) (by decide) mw_fl_10_55 (v := .ref (ad 56)) (fvl_o (n := 56) rfl) dX10_pence_22 ?_
        refine t_get E G 2 1 (rfl : ro 56 = 2) (C := RX2) (T := TX2) (N := 5) rfl (by decide) (by decide) (by decide) mw_fl_10_121 (v := .ref (ad 70)) (fvl_o (n := 14) rfl) dX10_pence_25 ?_
        refine lv_aload_n E.1 E.2.1 dX10_pence_28 rfl (lv_at hl 0 rfl) ?_
        refine t_get E G 10 7 (rfl : ro 0 = 10) (C := RX10) (T := TX10) (N := 17) rfl (by decide) (by decide) (by decide) mw_fl_10_55 (v := .ref (ad 56)) (fvl_o (n := 56) rfl) dX10_pence_29 ?_
        refine t_get E G 2 0 (rfl : ro 56 = 2) (C := RX2) (T := TX2) (N := 5) rfl (by decide) (by decide) (by decide) mw_fl_10_114 (v := .ref (ad 57)) (fvl_o (n := 1) rfl) dX10_pence_32 ?_
        refine t_get E G 8 3 (rfl : ro 57 = 8) (C := RX8) (T := TX8) (N := 10) rfl (by decide) (by decide) (by decide) mw_fl_10_140 (fvl_i rfl) dX10_pence_35 ?_
        refine lv_topi (fun v16 e17 => ?_)
        have b18 : iv 0 5 v16 := by rw [e17]; exact o.i 8 3 (rfl : ro 57 = 8)
        refine t_vi E G hl (s_all l D K ad z o 70 (by decide : at_ 6 70 = true) v16 (iv_mono b18 (by decide) (by decide))) 6 (rfl : ro 70 = 6) (by decide) rfl rfl 1 rfl mw_code_X6_allCharges mw_ini_6 mw_ml_10_211 mw_inst_X6_allCharges mw_sel_X6_allCharges hd_X6_allCharges ⟨Nat.le_trans (by decide) hfr, Nat.le_trans (by decide) hlo⟩ rfl rfl rfl (Nat.le_of_ble_eq_true rfl) dX10_pence_38 (fun r20 zz19 H locs hp21 G => ?_)
        have hz22 := hp21
        rw [hz22] at G
        refine lv_istore_n (lv' := [(3, .int r20), (0, .ref (ad 0)), (1, .int x1), (2, .int x2)]) E.1 E.2.1 dX10_pence_41 rfl hl (by decide) rfl (fun ls hl => ?_)
        refine lv_iload_n E.1 E.2.1 dX10_pence_42 rfl (lv_at hl 0 rfl) ?_
        refine lv_if_gt (tgt := 48) E.1 E.2.1 dX10_pence_43 (by decide) (fun c23 => ?_) (fun c23 => ?_)
        · skip
          have b24 : iv 1 2147483647 r20 := lt_r c23 (iv_lit (lo := 0) (hi := 0) 0 (by decide) (by decide)) (iv_full r20) (by decide)
          refine lv_iload_n E.1 E.2.1 dX10_pence_48 rfl (lv_at hl 2 rfl) ?_
          refine lv_istore (lv' := [(4, .int x1), (3, .int r20), (0, .ref (ad 0)), (1, .int x1), (2, .int x2)]) E.1 E.2.1 dX10_pence_49 hl (by decide) rfl (fun ls hl => ?_)
          refine lv_iconst (v := 0) E.1 E.2.1 dX10_pence_51 (by decide) ?_
          refine lv_istore (lv' := [(5, .int 0), (4, .int x1), (3, .int r20), (0, .ref (ad 0)), (1, .int x1), (2, .int x2)]) E.1 E.2.1 dX10_pence_52 hl (by decide) rfl (fun ls hl => ?_)
          refine lv_iload_n E.1 E.2.1 dX10_pence_54 rfl (lv_at hl 4 rfl) ?_
          refine lv_aload_n E.1 E.2.1 dX10_pence_55 rfl (lv_at hl 3 rfl) ?_
          refine t_get E G 10 7 (rfl : ro 0 = 10) (C := RX10) (T := TX10) (N := 17) rfl (by decide) (by decide) (by decide) mw_fl_10_55 (v := .ref (ad 56)) (fvl_o (n := 56) rfl) dX10_pence_56 ?_
          refine t_get E G 2 1 (rfl : ro 56 = 2) (C := RX2) (T := TX2) (N := 5) rfl (by decide) (by decide) (by decide) mw_fl_10_121 (v := .ref (ad 70)) (fvl_o (n := 14) rfl) dX10_pence_59 ?_
          refine t_get E G 6 3 (rfl : ro 70 = 6) (C := RX6) (T := TX6) (N := 8) rfl (by decide) (by decide) (by decide) mw_fl_10_183 (v := .ref (ad 74)) (fvl_o (n := 4) rfl) dX10_pence_62 ?_
          refine lv_iload_n E.1 E.2.1 dX10_pence_65 rfl (lv_at hl 5 rfl) ?_
          refine t_iald E G 22 (rfl : ro 74 = 22) (by decide) (by decide) rfl (n := 5) rfl (iv_vp b10 (by decide) (by decide)) dX10_pence_66 ?_
          refine lv_topi (fun v25 e26 => ?_)
          refine lv_imul E.1 E.2.1 dX10_pence_67 ?_
          refine lv_topi (fun v27 e28 => ?_)
          refine lv_iload_n E.1 E.2.1 dX10_pence_68 rfl (lv_at hl 2 rfl) ?_
          refine lv_irem E.1 E.2.1 dX10_pence_69 (ivne2 b24 (iv_lit (lo := 0) (hi := 0) 0 (by decide) (by decide)) (by decide)) ?_
          refine lv_topi (fun v29 e30 => ?_)
          refine lv_istore (lv' := [(6, .int v29), (5, .int 0), (4, .int x1), (3, .int r20), (0, .ref (ad 0)), (1, .int x1), (2, .int x2)]) E.1 E.2.1 dX10_pence_70 hl (by decide) rfl (fun ls hl => ?_)
          refine lv_iconst (v := 0) E.1 E.2.1 dX10_pence_72 (by decide) ?_
          refine lv_istore (lv' := [(7, .int 0), (6, .int v29), (5, .int 0), (4, .int x1), (3, .int r20), (0, .ref (ad 0)), (1, .int x1), (2, .int x2)]) E.1 E.2.1 dX10_pence_73 hl (by decide) rfl (fun ls hl => ?_)
          have LOOP75 : ∀ n : Nat, ∀ (y31 : Int32) (y32 : Int32) (y33 : Int32) (H : Heap) (locs : List Loc) (ls : Array Slot), mG D A s H locs (wd K ad z) → iv 0 5 y31 → 5 < y31.toInt + (n : Int) → lv_has ls 9 [(7, .int y31), (6, .int v29), (5, .int y32), (4, .int y33), (3, .int r20), (0, .ref (ad 0)), (1, .int x1), (2, .int x2)] → W p l e R s m args below meth c H locs 0 0 Q (F0 m 75 ls []) := by
            intro n
            induction n with
            | zero =>
              intro y31 y32 y33 H locs ls G b38 m37 hl
              exact absurd m37 (by have := b38.1; have := b38.2; omega)
            | succ n ih75 =>
              intro y31 y32 y33 H locs ls G b38 m37 hl
              refine lv_iload E.1 E.2.1 dX10_pence_75 (lv_at hl 0 rfl) ?_
              refine lv_aload_n E.1 E.2.1 dX10_pence_77 rfl (lv_at hl 5 rfl) ?_
              refine t_get E G 10 7 (rfl : ro 0 = 10) (C := RX10) (T := TX10) (N := 17) rfl (by decide) (by decide) (by decide) mw_fl_10_55 (v := .ref (ad 56)) (fvl_o (n := 56) rfl) dX10_pence_78 ?_
              refine t_get E G 2 0 (rfl : ro 56 = 2) (C := RX2) (T := TX2) (N := 5) rfl (by decide) (by decide) (by decide) mw_fl_10_114 (v := .ref (ad 57)) (fvl_o (n := 1) rfl) dX10_pence_81 ?_
              refine t_get E G 8 3 (rfl : ro 57 = 8) (C := RX8) (T := TX8) (N := 10) rfl (by decide) (by decide) (by decide) mw_fl_10_140 (fvl_i rfl) dX10_pence_84 ?_
              refine m_ci v16 e17.symm ?_
              refine lv_icmp_ge (tgt := 149) E.1 E.2.1 dX10_pence_87 (by decide) (fun c39 => ?_) (fun c39 => ?_)
              · skip
                refine lv_iload_n E.1 E.2.1 dX10_pence_149 rfl (lv_at hl 6 rfl) ?_
                refine lv_aload_n E.1 E.2.1 dX10_pence_150 rfl (lv_at hl 5 rfl) ?_
                refine t_get E G 10 7 (rfl : ro 0 = 10) (C := RX10) (T := TX10) (N := 17) rfl (by decide) (by decide) (by decide) mw_fl_10_55 (v := .ref (ad 56)) (fvl_o (n := 56) rfl) dX10_pence_151 ?_
                refine t_get E G 2 1 (rfl : ro 56 = 2) (C := RX2) (T := TX2) (N := 5) rfl (by decide) (by decide) (by decide) mw_fl_10_121 (v := .ref (ad 70)) (fvl_o (n := 14) rfl) dX10_pence_154 ?_
                refine t_get E G 6 3 (rfl : ro 70 = 6) (C := RX6) (T := TX6) (N := 8) rfl (by decide) (by decide) (by decide) mw_fl_10_183 (v := .ref (ad 74)) (fvl_o (n := 4) rfl) dX10_pence_157 ?_
                refine lv_iload_n E.1 E.2.1 dX10_pence_160 rfl (lv_at hl 7 rfl) ?_
                refine t_iald E G 22 (rfl : ro 74 = 22) (by decide) (by decide) rfl (n := 5) rfl (iv_vp b10 (by decide) (by decide)) dX10_pence_161 ?_
                refine m_ci v25 e26.symm ?_
                refine lv_imul E.1 E.2.1 dX10_pence_162 ?_
                refine lv_topi (fun v40 e41 => ?_)
                refine lv_iload_n E.1 E.2.1 dX10_pence_163 rfl (lv_at hl 4 rfl) ?_
                refine lv_idiv E.1 E.2.1 dX10_pence_164 (ivne2 b24 (iv_lit (lo := 0) (hi := 0) 0 (by decide) (by decide)) (by decide)) ?_
                refine lv_topi (fun v42 e43 => ?_)
                refine lv_iload E.1 E.2.1 dX10_pence_165 (lv_at hl 2 rfl) ?_
                refine lv_iload E.1 E.2.1 dX10_pence_167 (lv_at hl 3 rfl) ?_
                refine lv_icmp_ge (tgt := 176) E.1 E.2.1 dX10_pence_169 (by decide) (fun c44 => ?_) (fun c44 => ?_)
                · skip
                  refine lv_iconst (v := 0) E.1 E.2.1 dX10_pence_176 (by decide) ?_
                  refine lv_iadd E.1 E.2.1 dX10_pence_177 ?_
                  refine lv_topi (fun v45 e46 => ?_)
                  exact RET G rfl rfl dX10_pence_178
                · skip
                  have b47 : iv (-2147483648) 2147483646 y32 := lt_l (Int32.not_le.mp c44) (iv_full y32) (iv_full y33) (by decide)
                  have b48 : iv (-2147483647) 2147483647 y33 := lt_r (Int32.not_le.mp c44) (iv_full y32) (iv_full y33) (by decide)
                  refine lv_iconst (v := 1) E.1 E.2.1 dX10_pence_172 (by decide) ?_
                  refine lv_goto (tgt := 177) E.1 E.2.1 dX10_pence_173 (by decide) ?_
                  refine lv_iadd E.1 E.2.1 dX10_pence_177 ?_
                  refine lv_topi (fun v49 e50 => ?_)
                  exact RET G rfl rfl dX10_pence_178
              · skip
                have b51 : iv 0 4 y31 := lt_l (Int32.not_le.mp c39) b38 b18 (by decide)
                have b52 : iv 1 5 v16 := lt_r (Int32.not_le.mp c39) b38 b18 (by decide)
                refine lv_iload_n E.1 E.2.1 dX10_pence_90 rfl (lv_at hl 6 rfl) ?_
                refine lv_aload_n E.1 E.2.1 dX10_pence_91 rfl (lv_at hl 5 rfl) ?_
                refine t_get E G 10 7 (rfl : ro 0 = 10) (C := RX10) (T := TX10) (N := 17) rfl (by decide) (by decide) (by decide) mw_fl_10_55 (v := .ref (ad 56)) (fvl_o (n := 56) rfl) dX10_pence_92 ?_
                refine t_get E G 2 1 (rfl : ro 56 = 2) (C := RX2) (T := TX2) (N := 5) rfl (by decide) (by decide) (by decide) mw_fl_10_121 (v := .ref (ad 70)) (fvl_o (n := 14) rfl) dX10_pence_95 ?_
                refine t_get E G 6 3 (rfl : ro 70 = 6) (C := RX6) (T := TX6) (N := 8) rfl (by decide) (by decide) (by decide) mw_fl_10_183 (v := .ref (ad 74)) (fvl_o (n := 4) rfl) dX10_pence_98 ?_
                refine lv_iload E.1 E.2.1 dX10_pence_101 (lv_at hl 0 rfl) ?_
                refine t_iald E G 22 (rfl : ro 74 = 22) (by decide) (by decide) rfl (n := 5) rfl (iv_vp b51 (by decide) (by decide)) dX10_pence_103 ?_
                refine lv_topi (fun v53 e54 => ?_)
                refine lv_imul E.1 E.2.1 dX10_pence_104 ?_
                refine lv_topi (fun v55 e56 => ?_)
                refine lv_istore (lv' := [(8, .int v55), (7, .int y31), (6, .int v29), (5, .int y32), (4, .int y33), (3, .int r20), (0, .ref (ad 0)), (1, .int x1), (2, .int x2)]) E.1 E.2.1 dX10_pence_105 hl (by decide) rfl (fun ls hl => ?_)
                refine lv_iload E.1 E.2.1 dX10_pence_107 (lv_at hl 4 rfl) ?_
                refine lv_iload E.1 E.2.1 dX10_pence_109 (lv_at hl 0 rfl) ?_
                refine lv_iload_n E.1 E.2.1 dX10_pence_111 rfl (lv_at hl 5 rfl) ?_
                refine lv_idiv E.1 E.2.1 dX10_pence_112 (ivne2 b24 (iv_lit (lo := 0) (hi := 0) 0 (by decide) (by decide)) (by decide)) ?_
                refine lv_topi (fun v57 e58 => ?_)
                refine lv_isub E.1 E.2.1 dX10_pence_113 ?_
                refine lv_topi (fun v59 e60 => ?_)
                refine lv_istore (lv' := [(4, .int v59), (8, .int v55), (7, .int y31), (6, .int v29), (5, .int y32), (3, .int r20), (0, .ref (ad 0)), (1, .int x1), (2, .int x2)]) E.1 E.2.1 dX10_pence_114 hl (by decide) rfl (fun ls hl => ?_)
                refine lv_iload E.1 E.2.1 dX10_pence_116 (lv_at hl 1 rfl) ?_
                refine lv_iload_n E.1 E.2.1 dX10_pence_118 rfl (lv_at hl 5 rfl) ?_
                refine lv_irem E.1 E.2.1 dX10_pence_119 (ivne2 b24 (iv_lit (lo := 0) (hi := 0) 0 (by decide) (by decide)) (by decide)) ?_
                refine lv_topi (fun v61 e62 => ?_)
                refine lv_iload E.1 E.2.1 dX10_pence_120 (lv_at hl 3 rfl) ?_
                refine lv_icmp_gt (tgt := 140) E.1 E.2.1 dX10_pence_122 (by decide) (fun c63 => ?_) (fun c63 => ?_)
                · skip
                  have b64 : iv (-2147483648) 2147483646 v29 := lt_l c63 (iv_full v29) (iv_full v61) (by decide)
                  have b65 : iv (-2147483647) 2147483647 v61 := lt_r c63 (iv_full v29) (iv_full v61) (by decide)
                  obtain ⟨v66, e67⟩ : ∃ w : Int32, w = y32 + (1 : Int32) := ⟨_, rfl⟩
                  refine lv_iinc (v := v66) (lv' := [(5, .int v66), (4, .int v59), (8, .int v55), (7, .int y31), (6, .int v29), (3, .int r20), (0, .ref (ad 0)), (1, .int x1), (2, .int x2)]) E.1 E.2.1 dX10_pence_140 hl (k := 4) rfl (by rw [e67]; rfl) (by decide) rfl (fun ls hl => ?_)
                  obtain ⟨v68, e69⟩ : ∃ w : Int32, w = y31 + (1 : Int32) := ⟨_, rfl⟩
                  refine lv_iinc (v := v68) (lv' := [(7, .int v68), (5, .int v66), (4, .int v59), (8, .int v55), (6, .int v29), (3, .int r20), (0, .ref (ad 0)), (1, .int x1), (2, .int x2)]) E.1 E.2.1 dX10_pence_143 hl (k := 3) rfl (by rw [e69]; rfl) (by decide) rfl (fun ls hl => ?_)
                  have b70 : iv 1 5 v68 := by rw [e69]; exact iv_add b51 (iv_lit (lo := 1) (hi := 1) 1 (by decide) (by decide)) (by decide) (by decide) (by decide) (by decide)
                  have t71 : v68.toInt = y31.toInt + 1 := by rw [e69]; exact ti_addc 1 (by decide) b51 (by decide) (by decide)
                  refine lv_goto (tgt := 75) E.1 E.2.1 dX10_pence_146 (by decide) ?_
                  exact ih75 v68 v66 v59 H locs ls G (iv_mono b70 (by decide) (by decide)) (by have := t71; have := m37; omega) (lv_sub hl [0, 4, 1, 2, 5, 6, 7, 8] rfl)
                · skip
                  refine lv_iload E.1 E.2.1 dX10_pence_125 (lv_at hl 1 rfl) ?_
                  refine lv_iload_n E.1 E.2.1 dX10_pence_127 rfl (lv_at hl 5 rfl) ?_
                  refine lv_irem E.1 E.2.1 dX10_pence_128 (ivne2 b24 (iv_lit (lo := 0) (hi := 0) 0 (by decide) (by decide)) (by decide)) ?_
                  refine lv_topi (fun v72 e73 => ?_)
                  refine lv_iload E.1 E.2.1 dX10_pence_129 (lv_at hl 3 rfl) ?_
                  refine lv_icmp_ne (tgt := 143) E.1 E.2.1 dX10_pence_131 (by decide) (fun c74 => ?_) (fun c74 => ?_)
                  · skip
                    obtain ⟨v75, e76⟩ : ∃ w : Int32, w = y31 + (1 : Int32) := ⟨_, rfl⟩
                    refine lv_iinc (v := v75) (lv' := [(7, .int v75), (4, .int v59), (8, .int v55), (6, .int v29), (5, .int y32), (3, .int r20), (0, .ref (ad 0)), (1, .int x1), (2, .int x2)]) E.1 E.2.1 dX10_pence_143 hl (k := 2) rfl (by rw [e76]; rfl) (by decide) rfl (fun ls hl => ?_)
                    have b77 : iv 1 5 v75 := by rw [e76]; exact iv_add b51 (iv_lit (lo := 1) (hi := 1) 1 (by decide) (by decide)) (by decide) (by decide) (by decide) (by decide)
                    have t78 : v75.toInt = y31.toInt + 1 := by rw [e76]; exact ti_addc 1 (by decide) b51 (by decide) (by decide)
                    refine lv_goto (tgt := 75) E.1 E.2.1 dX10_pence_146 (by decide) ?_
                    exact ih75 v75 y32 v59 H locs ls G (iv_mono b77 (by decide) (by decide)) (by have := t78; have := m37; omega) (lv_sub hl [0, 3, 4, 1, 5, 6, 7, 8] rfl)
                  · skip
                    refine lv_iload E.1 E.2.1 dX10_pence_134 (lv_at hl 2 rfl) ?_
                    refine lv_iload_n E.1 E.2.1 dX10_pence_136 rfl (lv_at hl 8 rfl) ?_
                    refine lv_icmp_ge (tgt := 143) E.1 E.2.1 dX10_pence_137 (by decide) (fun c79 => ?_) (fun c79 => ?_)
                    · skip
                      obtain ⟨v80, e81⟩ : ∃ w : Int32, w = y31 + (1 : Int32) := ⟨_, rfl⟩
                      refine lv_iinc (v := v80) (lv' := [(7, .int v80), (4, .int v59), (8, .int v55), (6, .int v29), (5, .int y32), (3, .int r20), (0, .ref (ad 0)), (1, .int x1), (2, .int x2)]) E.1 E.2.1 dX10_pence_143 hl (k := 2) rfl (by rw [e81]; rfl) (by decide) rfl (fun ls hl => ?_)
                      have b82 : iv 1 5 v80 := by rw [e81]; exact iv_add b51 (iv_lit (lo := 1) (hi := 1) 1 (by decide) (by decide)) (by decide) (by decide) (by decide) (by decide)
                      have t83 : v80.toInt = y31.toInt + 1 := by rw [e81]; exact ti_addc 1 (by decide) b51 (by decide) (by decide)
                      refine lv_goto (tgt := 75) E.1 E.2.1 dX10_pence_146 (by decide) ?_
                      exact ih75 v80 y32 v59 H locs ls G (iv_mono b82 (by decide) (by decide)) (by have := t83; have := m37; omega) (lv_sub hl [0, 3, 4, 1, 5, 6, 7, 8] rfl)
                    · skip
                      have b84 : iv 0 3 y31 := lt_l (Int32.not_le.mp c79) b51 b10 (by decide)
                      have b85 : iv 1 4 x2 := lt_r (Int32.not_le.mp c79) b51 b10 (by decide)
                      obtain ⟨v86, e87⟩ : ∃ w : Int32, w = y32 + (1 : Int32) := ⟨_, rfl⟩
                      refine lv_iinc (v := v86) (lv' := [(5, .int v86), (4, .int v59), (8, .int v55), (7, .int y31), (6, .int v29), (3, .int r20), (0, .ref (ad 0)), (1, .int x1), (2, .int x2)]) E.1 E.2.1 dX10_pence_140 hl (k := 4) rfl (by rw [e87]; rfl) (by decide) rfl (fun ls hl => ?_)
                      obtain ⟨v88, e89⟩ : ∃ w : Int32, w = y31 + (1 : Int32) := ⟨_, rfl⟩
                      refine lv_iinc (v := v88) (lv' := [(7, .int v88), (5, .int v86), (4, .int v59), (8, .int v55), (6, .int v29), (3, .int r20), (0, .ref (ad 0)), (1, .int x1), (2, .int x2)]) E.1 E.2.1 dX10_pence_143 hl (k := 3) rfl (by rw [e89]; rfl) (by decide) rfl (fun ls hl => ?_)
                      have b90 : iv 1 4 v88 := by rw [e89]; exact iv_add b84 (iv_lit (lo := 1) (hi := 1) 1 (by decide) (by decide)) (by decide) (by decide) (by decide) (by decide)
                      have t91 : v88.toInt = y31.toInt + 1 := by rw [e89]; exact ti_addc 1 (by decide) b84 (by decide) (by decide)
                      refine lv_goto (tgt := 75) E.1 E.2.1 dX10_pence_146 (by decide) ?_
                      exact ih75 v88 v86 v59 H locs ls G (iv_mono b90 (by decide) (by decide)) (by have := t91; have := m37; omega) (lv_sub hl [0, 4, 1, 2, 5, 6, 7, 8] rfl)
          exact LOOP75 6 0 0 x1 H locs ls G (iv_mono (iv_lit (lo := 0) (hi := 0) 0 (by decide) (by decide)) (by decide) (by decide)) (by have := (iv_lit (lo := 0) (hi := 0) 0 (by decide) (by decide)).1; omega) (lv_sub hl [0, 1, 2, 3, 4, 5, 6, 7] rfl)
        · skip
          have b92 : iv (-2147483648) 0 r20 := le_l (Int32.not_lt.mp c23) (iv_full r20) (iv_lit (lo := 0) (hi := 0) 0 (by decide) (by decide)) (by decide)
          refine lv_iconst (v := 0) E.1 E.2.1 dX10_pence_46 (by decide) ?_
          exact RET G rfl rfl dX10_pence_47
      · skip
        have b93 : iv 10000 2147483647 x1 := lt_r (Int32.not_le.mp c14) (iv_lit (lo := 9999) (hi := 9999) 9999 (by decide) (by decide)) b13 (by decide)
        refine lv_iconst (v := (-1)) E.1 E.2.1 dX10_pence_19 (by decide) ?_
        exact RET G rfl rfl dX10_pence_20
set_option maxHeartbeats 4000000 in
set_option maxRecDepth 100000 in
theorem k_note (l : Launch) (D : va_G) (K : Nat → ClassId) (ad : Nat → Nat) (z : TS) (o : Ok z) (x1 : Int32) (x2 : Int32) (x3 : Int32) : cI l yX10_note cX10_note 4 .int ({ frames := 1, cells := 0, slots := 0, locals := 23 }) D K ad z [.ref (ad 0), .int x1, .int x2, .int x3] (fun r u => Ok u ∧ KC z u) := by
  refine t_enterI (by decide) (Nat.le_of_ble_eq_true rfl) rfl rfl ?_
  intro p e s m args below meth c A R Q H locs ls E hfr hlo RET G hl
  have E : mE p s m meth c cX10_note args 4 RX10 D K A := E
  have hl : lv_has ls 4 [(0, .ref (ad 0)), (1, .int x1), (2, .int x2), (3, .int x3)] := hl
  refine lv_iload_n E.1 E.2.1 dX10_note_0 rfl (lv_at hl 1 rfl) ?_
  refine lv_iconst (v := (-1)) E.1 E.2.1 dX10_note_1 (by decide) ?_
  refine lv_icmp_ne (tgt := 18) E.1 E.2.1 dX10_note_2 (by decide) (fun c1 => ?_) (fun c1 => ?_)
  · skip
    refine lv_iload_n E.1 E.2.1 dX10_note_18 rfl (lv_at hl 1 rfl) ?_
    refine lv_if_lt (tgt := 44) E.1 E.2.1 dX10_note_19 (by decide) (fun c2 => ?_) (fun c2 => ?_)
    · skip
      have b3 : iv (-2147483648) (-1) x1 := lt_l c2 (iv_full x1) (iv_lit (lo := 0) (hi := 0) 0 (by decide) (by decide)) (by decide)
      refine lv_bipush (v := (-2)) E.1 E.2.1 dX10_note_44 (by decide) ?_
      exact RET G ⟨o, KC.rf⟩ rfl dX10_note_46
    · skip
      have b4 : iv 0 2147483647 x1 := le_r (Int32.not_lt.mp c2) (iv_lit (lo := 0) (hi := 0) 0 (by decide) (by decide)) (iv_full x1) (by decide)
      refine lv_iload_n E.1 E.2.1 dX10_note_22 rfl (lv_at hl 1 rfl) ?_
      refine lv_bipush (v := 60) E.1 E.2.1 dX10_note_23 (by decide) ?_
      refine lv_icmp_gt (tgt := 44) E.1 E.2.1 dX10_note_25 (by decide) (fun c5 => ?_) (fun c5 => ?_)
      · skip
        have b6 : iv 61 2147483647 x1 := lt_r c5 (iv_lit (lo := 60) (hi := 60) 60 (by decide) (by decide)) b4 (by decide)
        refine lv_bipush (v := (-2)) E.1 E.2.1 dX10_note_44 (by decide) ?_
        exact RET G ⟨o, KC.rf⟩ rfl dX10_note_46
      · skip
        have b7 : iv 0 60 x1 := le_l (Int32.not_lt.mp c5) b4 (iv_lit (lo := 60) (hi := 60) 60 (by decide) (by decide)) (by decide)
        refine lv_aload_n E.1 E.2.1 dX10_note_28 rfl (lv_at hl 0 rfl) ?_
        refine lv_iload_n E.1 E.2.1 dX10_note_29 rfl (lv_at hl 2 rfl) ?_
        refine t_vi E G hl (h_walker l D K ad z o x2) 10 (rfl : ro 0 = 10) (by decide) rfl rfl 1 rfl mw_code_X10_hasWalker mw_ini_10 mw_ml_10_168 mw_inst_X10_hasWalker mw_sel_X10_hasWalker hd_X10_hasWalker ⟨Nat.le_trans (by decide) hfr, Nat.le_trans (by decide) hlo⟩ rfl rfl rfl (Nat.le_of_ble_eq_true rfl) dX10_note_30 (fun r9 zz8 H locs hp10 G => ?_)
        obtain ⟨hz13, b11, h12⟩ := hp10
        rw [hz13] at G
        refine lv_if_eq (tgt := 44) E.1 E.2.1 dX10_note_33 (by decide) (fun c14 => ?_) (fun c14 => ?_)
        · skip
          have b15 : iv 0 0 r9 := iv_eq c14 (iv_lit (lo := 0) (hi := 0) 0 (by decide) (by decide))
          refine lv_bipush (v := (-2)) E.1 E.2.1 dX10_note_44 (by decide) ?_
          exact RET G ⟨o, KC.rf⟩ rfl dX10_note_46
        · skip
          have b16 : iv 1 1 r9 := ne_lo c14 b11 (by decide) (by decide)
          have b17 : iv 0 4 x2 := h12 c14
          refine lv_aload_n E.1 E.2.1 dX10_note_36 rfl (lv_at hl 0 rfl) ?_
          refine lv_iload_n E.1 E.2.1 dX10_note_37 rfl (lv_at hl 3 rfl) ?_
          refine t_vi E G hl (h_corner l D K ad z o x3) 10 (rfl : ro 0 = 10) (by decide) rfl rfl 1 rfl mw_code_X10_hasCorner mw_ini_10 mw_ml_10_186 mw_inst_X10_hasCorner mw_sel_X10_hasCorner hd_X10_hasCorner ⟨Nat.le_trans (by decide) hfr, Nat.le_trans (by decide) hlo⟩ rfl rfl rfl (Nat.le_of_ble_eq_true rfl) dX10_note_38 (fun r19 zz18 H locs hp20 G => ?_)
          obtain ⟨hz23, b21, h22⟩ := hp20
          rw [hz23] at G
          refine lv_if_ne (tgt := 47) E.1 E.2.1 dX10_note_41 (by decide) (fun c24 => ?_) (fun c24 => ?_)
          · skip
            have b25 : iv 1 1 r19 := ne_lo c24 b21 (by decide) (by decide)
            have b26 : iv 0 7 x3 := h22 c24
            refine lv_aload_n E.1 E.2.1 dX10_note_47 rfl (lv_at hl 0 rfl) ?_
            refine t_get E G 10 7 (rfl : ro 0 = 10) (C := RX10) (T := TX10) (N := 17) rfl (by decide) (by decide) (by decide) mw_fl_10_55 (v := .ref (ad 56)) (fvl_o (n := 56) rfl) dX10_note_48 ?_
            refine t_get E G 2 2 (rfl : ro 56 = 2) (C := RX2) (T := TX2) (N := 5) rfl (by decide) (by decide) (by decide) mw_fl_10_130 (v := .ref (ad 77)) (fvl_o (n := 21) rfl) dX10_note_51 ?_
            refine lv_iload_n E.1 E.2.1 dX10_note_54 rfl (lv_at hl 1 rfl) ?_
            refine lv_iload_n E.1 E.2.1 dX10_note_55 rfl (lv_at hl 2 rfl) ?_
            refine lv_iload_n E.1 E.2.1 dX10_note_56 rfl (lv_at hl 3 rfl) ?_
            refine t_vi E G hl (n_add l D K ad z o 77 (by decide : at_ 3 77 = true) x1 (iv_mono b7 (by decide) (by decide)) x2 (iv_mono b17 (by decide) (by decide)) x3) 3 (rfl : ro 77 = 3) (by decide) rfl rfl 3 rfl mw_code_X3_add mw_ini_3 mw_ml_10_314 mw_inst_X3_add mw_sel_X3_add hd_X3_add ⟨Nat.le_trans (by decide) hfr, Nat.le_trans (by decide) hlo⟩ rfl rfl rfl (Nat.le_of_ble_eq_true rfl) dX10_note_57 (fun r28 zz27 H locs hp29 G => ?_)
            obtain ⟨oo30, kk31, b32⟩ := hp29
            have kk33 : KC z zz27 := KC.tr KC.rf kk31
            refine lv_if_eq (tgt := 76) E.1 E.2.1 dX10_note_60 (by decide) (fun c34 => ?_) (fun c34 => ?_)
            · skip
              have b35 : iv 0 0 r28 := iv_eq c34 (iv_lit (lo := 0) (hi := 0) 0 (by decide) (by decide))
              refine lv_bipush (v := (-2)) E.1 E.2.1 dX10_note_76 (by decide) ?_
              exact RET G ⟨oo30, kk33⟩ rfl dX10_note_78
            · skip
              have b36 : iv 1 1 r28 := ne_lo c34 b32 (by decide) (by decide)
              refine lv_aload_n E.1 E.2.1 dX10_note_63 rfl (lv_at hl 0 rfl) ?_
              refine t_get E G 10 7 (rfl : ro 0 = 10) (C := RX10) (T := TX10) (N := 17) rfl (by decide) (by decide) (by decide) mw_fl_10_55 (v := .ref (ad 56)) (fvl_o (n := 56) rfl) dX10_note_64 ?_
              refine t_get E G 2 2 (rfl : ro 56 = 2) (C := RX2) (T := TX2) (N := 5) rfl (by decide) (by decide) (by decide) mw_fl_10_130 (v := .ref (ad 77)) (fvl_o (n := 21) rfl) dX10_note_67 ?_
              refine t_get E G 3 0 (rfl : ro 77 = 3) (C := RX3) (T := TX3) (N := 4) rfl (by decide) (by decide) (by decide) mw_fl_10_134 (fvl_i rfl) dX10_note_70 ?_
              refine lv_topi (fun v37 e38 => ?_)
              have b39 : iv 0 10 v37 := by rw [e38]; exact oo30.i 3 0 (rfl : ro 77 = 3)
              refine lv_goto (tgt := 78) E.1 E.2.1 dX10_note_73 (by decide) ?_
              exact RET G ⟨oo30, kk33⟩ rfl dX10_note_78
          · skip
            have b40 : iv 0 0 r19 := iv_eq c24 (iv_lit (lo := 0) (hi := 0) 0 (by decide) (by decide))
            refine lv_bipush (v := (-2)) E.1 E.2.1 dX10_note_44 (by decide) ?_
            exact RET G ⟨o, KC.rf⟩ rfl dX10_note_46
  · skip
    have b41 : iv (-1) (-1) x1 := iv_eq c1 (iv_lit (lo := (-1)) (hi := (-1)) (-1) (by decide) (by decide))
    refine lv_aload_n E.1 E.2.1 dX10_note_5 rfl (lv_at hl 0 rfl) ?_
    refine t_get E G 10 7 (rfl : ro 0 = 10) (C := RX10) (T := TX10) (N := 17) rfl (by decide) (by decide) (by decide) mw_fl_10_55 (v := .ref (ad 56)) (fvl_o (n := 56) rfl) dX10_note_6 ?_
    refine t_get E G 2 2 (rfl : ro 56 = 2) (C := RX2) (T := TX2) (N := 5) rfl (by decide) (by decide) (by decide) mw_fl_10_130 (v := .ref (ad 77)) (fvl_o (n := 21) rfl) dX10_note_9 ?_
    refine lv_iconst (v := 0) E.1 E.2.1 dX10_note_12 (by decide) ?_
    refine t_puti E G 3 0 (rfl : ro 77 = 3) (C := RX3) (T := TX3) (N := 4) rfl (by decide) (by decide) (by decide) rfl rfl mw_fl_10_134 rfl dX10_note_13 (fun H locs G => ?_)
    obtain ⟨zz42, G, oo43, kk44, h45⟩ : ∃ u : TS, mG D A s H locs (wd K ad u) ∧ Ok u ∧ KC z u ∧ tI u 77 0 = 0 := ⟨_, G, ok_i o 3 (rfl : ro 77 = 3) (iv_mono (iv_lit (lo := 0) (hi := 0) 0 (by decide) (by decide)) (by decide) (by decide)) (by decide), KC.tr KC.rf (KC_i 3 (rfl : ro 77 = 3) (by decide)), sI_self⟩
    refine lv_iconst (v := 0) E.1 E.2.1 dX10_note_16 (by decide) ?_
    exact RET G ⟨oo43, kk44⟩ rfl dX10_note_17
