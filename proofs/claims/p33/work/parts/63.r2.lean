theorem mw_code_X11_chargeOf : (Cond.code yX11_chargeOf cX11_chargeOf 2 (some .int) : Cond) ∈ cw := cw_of (List.mem_append_right _ (List.mem_append_right _ (List.mem_append_right _ (List.mem_append_right _ (List.mem_append_right _ (List.mem_append_right _ (List.mem_append_left _ (List.mem_of_getElem? (i := 197) rfl)))))))) (by decide +kernel)
theorem mw_code_X11_cornerOf : (Cond.code yX11_cornerOf cX11_cornerOf 2 (some .int) : Cond) ∈ cw := cw_of (List.mem_append_right _ (List.mem_append_right _ (List.mem_append_right _ (List.mem_append_right _ (List.mem_append_right _ (List.mem_append_right _ (List.mem_append_left _ (List.mem_of_getElem? (i := 189) rfl)))))))) (by decide +kernel)
theorem mw_code_X11_isLaid : (Cond.code yX11_isLaid cX11_isLaid 2 (some .boolean) : Cond) ∈ cw := cw_of (List.mem_append_right _ (List.mem_append_right _ (List.mem_append_right _ (List.mem_append_right _ (List.mem_append_right _ (List.mem_append_right _ (List.mem_append_right _ (List.mem_append_left _ (List.mem_of_getElem? (i := 16) rfl))))))))) (by decide +kernel)
theorem mw_code_X11_isOf : (Cond.code yX11_isOf cX11_isOf 2 (some .boolean) : Cond) ∈ cw := cw_of (List.mem_append_right _ (List.mem_append_right _ (List.mem_append_right _ (List.mem_append_right _ (List.mem_append_right _ (List.mem_append_right _ (List.mem_append_right _ (List.mem_append_left _ (List.mem_of_getElem? (i := 4) rfl))))))))) (by decide +kernel)
theorem mw_code_X11_kindOf : (Cond.code yX11_kindOf cX11_kindOf 2 (some .int) : Cond) ∈ cw := cw_of (List.mem_append_right _ (List.mem_append_right _ (List.mem_append_right _ (List.mem_append_right _ (List.mem_append_right _ (List.mem_append_right _ (List.mem_append_left _ (List.mem_of_getElem? (i := 177) rfl)))))))) (by decide +kernel)
theorem mw_code_X11_waryOf : (Cond.code yX11_waryOf cX11_waryOf 2 (some .int) : Cond) ∈ cw := cw_of (List.mem_append_right _ (List.mem_append_right _ (List.mem_append_right _ (List.mem_append_right _ (List.mem_append_right _ (List.mem_append_right _ (List.mem_append_left _ (List.mem_of_getElem? (i := 193) rfl)))))))) (by decide +kernel)
theorem mw_inst_X11_chargeOf : (Cond.instanceMethod yX11_chargeOf : Cond) ∈ cw := cw_of (List.mem_append_right _ (List.mem_append_right _ (List.mem_append_right _ (List.mem_append_right _ (List.mem_append_right _ (List.mem_append_right _ (List.mem_append_left _ (List.mem_of_getElem? (i := 196) (by decide +kernel))))))))) (by decide +kernel)
theorem mw_inst_X11_cornerOf : (Cond.instanceMethod yX11_cornerOf : Cond) ∈ cw := cw_of (List.mem_append_right _ (List.mem_append_right _ (List.mem_append_right _ (List.mem_append_right _ (List.mem_append_right _ (List.mem_append_right _ (List.mem_append_left _ (List.mem_of_getElem? (i := 188) (by decide +kernel))))))))) (by decide +kernel)
theorem mw_inst_X11_isLaid : (Cond.instanceMethod yX11_isLaid : Cond) ∈ cw := cw_of (List.mem_append_right _ (List.mem_append_right _ (List.mem_append_right _ (List.mem_append_right _ (List.mem_append_right _ (List.mem_append_right _ (List.mem_append_right _ (List.mem_append_left _ (List.mem_of_getElem? (i := 15) (by decide +kernel)))))))))) (by decide +kernel)
theorem mw_inst_X11_kindOf : (Cond.instanceMethod yX11_kindOf : Cond) ∈ cw := cw_of (List.mem_append_right _ (List.mem_append_right _ (List.mem_append_right _ (List.mem_append_right _ (List.mem_append_right _ (List.mem_append_right _ (List.mem_append_left _ (List.mem_of_getElem? (i := 176) (by decide +kernel))))))))) (by decide +kernel)
theorem mw_inst_X11_waryOf : (Cond.instanceMethod yX11_waryOf : Cond) ∈ cw := cw_of (List.mem_append_right _ (List.mem_append_right _ (List.mem_append_right _ (List.mem_append_right _ (List.mem_append_right _ (List.mem_append_right _ (List.mem_append_left _ (List.mem_of_getElem? (i := 192) (by decide +kernel))))))))) (by decide +kernel)
theorem mw_ml_11_288 : (Cond.methodLink RX11 288 yX11_isLaid : Cond) ∈ cw := cw_of (List.mem_append_right _ (List.mem_append_right _ (List.mem_append_right _ (List.mem_append_right _ (List.mem_append_right _ (List.mem_append_right _ (List.mem_append_right _ (List.mem_append_left _ (List.mem_of_getElem? (i := 13) (by decide +kernel)))))))))) (by decide +kernel)
theorem mw_ml_11_291 : (Cond.methodLink RX11 291 yX11_cornerOf : Cond) ∈ cw := cw_of (List.mem_append_right _ (List.mem_append_right _ (List.mem_append_right _ (List.mem_append_right _ (List.mem_append_right _ (List.mem_append_right _ (List.mem_append_left _ (List.mem_of_getElem? (i := 186) (by decide +kernel))))))))) (by decide +kernel)
theorem mw_ml_11_294 : (Cond.methodLink RX11 294 yX11_chargeOf : Cond) ∈ cw := cw_of (List.mem_append_right _ (List.mem_append_right _ (List.mem_append_right _ (List.mem_append_right _ (List.mem_append_right _ (List.mem_append_right _ (List.mem_append_left _ (List.mem_of_getElem? (i := 194) (by decide +kernel))))))))) (by decide +kernel)
theorem mw_ml_11_297 : (Cond.methodLink RX11 297 yX11_isOf : Cond) ∈ cw := cw_of (List.mem_append_right _ (List.mem_append_right _ (List.mem_append_right _ (List.mem_append_right _ (List.mem_append_right _ (List.mem_append_right _ (List.mem_append_right _ (List.mem_append_left _ (List.mem_of_getElem? (i := 2) (by decide +kernel)))))))))) (by decide +kernel)
theorem mw_ml_11_314 : (Cond.methodLink RX11 314 yX11_kindOf : Cond) ∈ cw := cw_of (List.mem_append_right _ (List.mem_append_right _ (List.mem_append_right _ (List.mem_append_right _ (List.mem_append_right _ (List.mem_append_right _ (List.mem_append_left _ (List.mem_of_getElem? (i := 174) (by decide +kernel))))))))) (by decide +kernel)
theorem mw_ml_11_320 : (Cond.methodLink RX11 320 yX11_waryOf : Cond) ∈ cw := cw_of (List.mem_append_right _ (List.mem_append_right _ (List.mem_append_right _ (List.mem_append_right _ (List.mem_append_right _ (List.mem_append_right _ (List.mem_append_left _ (List.mem_of_getElem? (i := 190) (by decide +kernel))))))))) (by decide +kernel)
theorem mw_sel_X11_chargeOf : (Cond.selects RX11 yX11_chargeOf yX11_chargeOf : Cond) ∈ cw := cw_of (List.mem_append_left _ (List.mem_of_getElem? (i := 87) (by decide +kernel))) (by decide +kernel)
theorem mw_sel_X11_cornerOf : (Cond.selects RX11 yX11_cornerOf yX11_cornerOf : Cond) ∈ cw := cw_of (List.mem_append_left _ (List.mem_of_getElem? (i := 85) (by decide +kernel))) (by decide +kernel)
theorem mw_sel_X11_isLaid : (Cond.selects RX11 yX11_isLaid yX11_isLaid : Cond) ∈ cw := cw_of (List.mem_append_left _ (List.mem_of_getElem? (i := 98) (by decide +kernel))) (by decide +kernel)
theorem mw_sel_X11_kindOf : (Cond.selects RX11 yX11_kindOf yX11_kindOf : Cond) ∈ cw := cw_of (List.mem_append_left _ (List.mem_of_getElem? (i := 83) (by decide +kernel))) (by decide +kernel)
theorem mw_sel_X11_waryOf : (Cond.selects RX11 yX11_waryOf yX11_waryOf : Cond) ∈ cw := cw_of (List.mem_append_left _ (List.mem_of_getElem? (i := 86) (by decide +kernel))) (by decide +kernel)
theorem mw_stat_X11_isOf : (Cond.static yX11_isOf : Cond) ∈ cw := cw_of (List.mem_append_right _ (List.mem_append_right _ (List.mem_append_right _ (List.mem_append_right _ (List.mem_append_right _ (List.mem_append_right _ (List.mem_append_right _ (List.mem_append_left _ (List.mem_of_getElem? (i := 3) (by decide +kernel)))))))))) (by decide +kernel)
theorem dX11_begins_0 : decode cX11_begins 0 = .ok (.aload_n 0, 1) := by decide +kernel
theorem dX11_begins_1 : decode cX11_begins 1 = .ok (.getfield 39, 3) := by decide +kernel
theorem dX11_begins_4 : decode cX11_begins 4 = .ok (.bipush 10, 2) := by decide +kernel
theorem dX11_begins_6 : decode cX11_begins 6 = .ok (.iconst 0, 1) := by decide +kernel
theorem dX11_begins_7 : decode cX11_begins 7 = .ok (.iastore, 1) := by decide +kernel
theorem dX11_begins_8 : decode cX11_begins 8 = .ok (.iconst 0, 1) := by decide +kernel
theorem dX11_begins_9 : decode cX11_begins 9 = .ok (.istore_n 1, 1) := by decide +kernel
theorem dX11_begins_10 : decode cX11_begins 10 = .ok (.iload_n 1, 1) := by decide +kernel
theorem dX11_begins_11 : decode cX11_begins 11 = .ok (.bipush 6, 2) := by decide +kernel
theorem dX11_begins_13 : decode cX11_begins 13 = .ok (.if_icmp .ge 71, 3) := by decide +kernel
theorem dX11_begins_16 : decode cX11_begins 16 = .ok (.aload_n 0, 1) := by decide +kernel
theorem dX11_begins_17 : decode cX11_begins 17 = .ok (.getfield 39, 3) := by decide +kernel
theorem dX11_begins_20 : decode cX11_begins 20 = .ok (.bipush 11, 2) := by decide +kernel
theorem dX11_begins_22 : decode cX11_begins 22 = .ok (.iconst 3, 1) := by decide +kernel
theorem dX11_begins_23 : decode cX11_begins 23 = .ok (.iload_n 1, 1) := by decide +kernel
theorem dX11_begins_24 : decode cX11_begins 24 = .ok (.imul, 1) := by decide +kernel
theorem dX11_begins_25 : decode cX11_begins 25 = .ok (.iadd, 1) := by decide +kernel
theorem dX11_begins_26 : decode cX11_begins 26 = .ok (.aload_n 0, 1) := by decide +kernel
theorem dX11_begins_27 : decode cX11_begins 27 = .ok (.getfield 39, 3) := by decide +kernel
theorem dX11_begins_30 : decode cX11_begins 30 = .ok (.bipush 66, 2) := by decide +kernel
theorem dX11_begins_32 : decode cX11_begins 32 = .ok (.iconst 2, 1) := by decide +kernel
theorem dX11_begins_33 : decode cX11_begins 33 = .ok (.iload_n 1, 1) := by decide +kernel
theorem dX11_begins_34 : decode cX11_begins 34 = .ok (.imul, 1) := by decide +kernel
theorem dX11_begins_35 : decode cX11_begins 35 = .ok (.iadd, 1) := by decide +kernel
theorem dX11_begins_36 : decode cX11_begins 36 = .ok (.iaload, 1) := by decide +kernel
theorem dX11_begins_37 : decode cX11_begins 37 = .ok (.iastore, 1) := by decide +kernel
theorem dX11_begins_38 : decode cX11_begins 38 = .ok (.aload_n 0, 1) := by decide +kernel
theorem dX11_begins_39 : decode cX11_begins 39 = .ok (.getfield 39, 3) := by decide +kernel
theorem dX11_begins_42 : decode cX11_begins 42 = .ok (.bipush 11, 2) := by decide +kernel
theorem dX11_begins_44 : decode cX11_begins 44 = .ok (.iconst 3, 1) := by decide +kernel
theorem dX11_begins_45 : decode cX11_begins 45 = .ok (.iload_n 1, 1) := by decide +kernel
theorem dX11_begins_46 : decode cX11_begins 46 = .ok (.imul, 1) := by decide +kernel
theorem dX11_begins_47 : decode cX11_begins 47 = .ok (.iadd, 1) := by decide +kernel
theorem dX11_begins_48 : decode cX11_begins 48 = .ok (.iconst 1, 1) := by decide +kernel
theorem dX11_begins_49 : decode cX11_begins 49 = .ok (.iadd, 1) := by decide +kernel
theorem dX11_begins_50 : decode cX11_begins 50 = .ok (.aload_n 0, 1) := by decide +kernel
theorem dX11_begins_51 : decode cX11_begins 51 = .ok (.getfield 39, 3) := by decide +kernel
theorem dX11_begins_54 : decode cX11_begins 54 = .ok (.bipush 66, 2) := by decide +kernel
theorem dX11_begins_56 : decode cX11_begins 56 = .ok (.iconst 2, 1) := by decide +kernel
theorem dX11_begins_57 : decode cX11_begins 57 = .ok (.iload_n 1, 1) := by decide +kernel
theorem dX11_begins_58 : decode cX11_begins 58 = .ok (.imul, 1) := by decide +kernel
theorem dX11_begins_59 : decode cX11_begins 59 = .ok (.iadd, 1) := by decide +kernel
theorem dX11_begins_60 : decode cX11_begins 60 = .ok (.iconst 1, 1) := by decide +kernel
theorem dX11_begins_61 : decode cX11_begins 61 = .ok (.iadd, 1) := by decide +kernel
theorem dX11_begins_62 : decode cX11_begins 62 = .ok (.iaload, 1) := by decide +kernel
theorem dX11_begins_63 : decode cX11_begins 63 = .ok (.iastore, 1) := by decide +kernel
theorem dX11_begins_64 : decode cX11_begins 64 = .ok (.aload_n 0, 1) := by decide +kernel
theorem dX11_begins_65 : decode cX11_begins 65 = .ok (.getfield 39, 3) := by decide +kernel
theorem dX11_begins_68 : decode cX11_begins 68 = .ok (.bipush 11, 2) := by decide +kernel
theorem dX11_begins_70 : decode cX11_begins 70 = .ok (.iconst 3, 1) := by decide +kernel
theorem dX11_begins_71 : decode cX11_begins 71 = .ok (.iload_n 1, 1) := by decide +kernel
theorem dX11_begins_72 : decode cX11_begins 72 = .ok (.imul, 1) := by decide +kernel
theorem dX11_begins_73 : decode cX11_begins 73 = .ok (.iadd, 1) := by decide +kernel
theorem dX11_begins_74 : decode cX11_begins 74 = .ok (.iconst 2, 1) := by decide +kernel
theorem dX11_begins_75 : decode cX11_begins 75 = .ok (.iadd, 1) := by decide +kernel
theorem dX11_begins_76 : decode cX11_begins 76 = .ok (.iconst 1, 1) := by decide +kernel
theorem dX11_begins_77 : decode cX11_begins 77 = .ok (.iastore, 1) := by decide +kernel
theorem dX11_begins_78 : decode cX11_begins 78 = .ok (.iinc 1 1, 3) := by decide +kernel
theorem dX11_begins_81 : decode cX11_begins 81 = .ok (.goto (-71), 3) := by decide +kernel
theorem dX11_begins_84 : decode cX11_begins 84 = .ok (.iconst 0, 1) := by decide +kernel
theorem dX11_begins_85 : decode cX11_begins 85 = .ok (.istore_n 1, 1) := by decide +kernel
theorem dX11_begins_86 : decode cX11_begins 86 = .ok (.iload_n 1, 1) := by decide +kernel
theorem dX11_begins_87 : decode cX11_begins 87 = .ok (.iconst 5, 1) := by decide +kernel
theorem dX11_begins_88 : decode cX11_begins 88 = .ok (.if_icmp .ge 71, 3) := by decide +kernel
theorem dX11_begins_91 : decode cX11_begins 91 = .ok (.aload_n 0, 1) := by decide +kernel
theorem dX11_begins_92 : decode cX11_begins 92 = .ok (.getfield 39, 3) := by decide +kernel
theorem dX11_begins_95 : decode cX11_begins 95 = .ok (.bipush 29, 2) := by decide +kernel
theorem dX11_begins_97 : decode cX11_begins 97 = .ok (.iconst 3, 1) := by decide +kernel
theorem dX11_begins_98 : decode cX11_begins 98 = .ok (.iload_n 1, 1) := by decide +kernel
theorem dX11_begins_99 : decode cX11_begins 99 = .ok (.imul, 1) := by decide +kernel
theorem dX11_begins_100 : decode cX11_begins 100 = .ok (.iadd, 1) := by decide +kernel
theorem dX11_begins_101 : decode cX11_begins 101 = .ok (.aload_n 0, 1) := by decide +kernel
theorem dX11_begins_102 : decode cX11_begins 102 = .ok (.getfield 39, 3) := by decide +kernel
theorem dX11_begins_105 : decode cX11_begins 105 = .ok (.bipush 78, 2) := by decide +kernel
theorem dX11_begins_107 : decode cX11_begins 107 = .ok (.iconst 2, 1) := by decide +kernel
theorem dX11_begins_108 : decode cX11_begins 108 = .ok (.iload_n 1, 1) := by decide +kernel
theorem dX11_begins_109 : decode cX11_begins 109 = .ok (.imul, 1) := by decide +kernel
theorem dX11_begins_110 : decode cX11_begins 110 = .ok (.iadd, 1) := by decide +kernel
theorem dX11_begins_111 : decode cX11_begins 111 = .ok (.iaload, 1) := by decide +kernel
theorem dX11_begins_112 : decode cX11_begins 112 = .ok (.iastore, 1) := by decide +kernel
theorem dX11_begins_113 : decode cX11_begins 113 = .ok (.aload_n 0, 1) := by decide +kernel
theorem dX11_begins_114 : decode cX11_begins 114 = .ok (.getfield 39, 3) := by decide +kernel
theorem dX11_begins_117 : decode cX11_begins 117 = .ok (.bipush 29, 2) := by decide +kernel
theorem dX11_begins_119 : decode cX11_begins 119 = .ok (.iconst 3, 1) := by decide +kernel
theorem dX11_begins_120 : decode cX11_begins 120 = .ok (.iload_n 1, 1) := by decide +kernel
theorem dX11_begins_121 : decode cX11_begins 121 = .ok (.imul, 1) := by decide +kernel
theorem dX11_begins_122 : decode cX11_begins 122 = .ok (.iadd, 1) := by decide +kernel
theorem dX11_begins_123 : decode cX11_begins 123 = .ok (.iconst 1, 1) := by decide +kernel
theorem dX11_begins_124 : decode cX11_begins 124 = .ok (.iadd, 1) := by decide +kernel
theorem dX11_begins_125 : decode cX11_begins 125 = .ok (.aload_n 0, 1) := by decide +kernel
theorem dX11_begins_126 : decode cX11_begins 126 = .ok (.getfield 39, 3) := by decide +kernel
theorem dX11_begins_129 : decode cX11_begins 129 = .ok (.bipush 78, 2) := by decide +kernel
theorem dX11_begins_131 : decode cX11_begins 131 = .ok (.iconst 2, 1) := by decide +kernel
theorem dX11_begins_132 : decode cX11_begins 132 = .ok (.iload_n 1, 1) := by decide +kernel
theorem dX11_begins_133 : decode cX11_begins 133 = .ok (.imul, 1) := by decide +kernel
theorem dX11_begins_134 : decode cX11_begins 134 = .ok (.iadd, 1) := by decide +kernel
theorem dX11_begins_135 : decode cX11_begins 135 = .ok (.iconst 1, 1) := by decide +kernel
theorem dX11_begins_136 : decode cX11_begins 136 = .ok (.iadd, 1) := by decide +kernel
theorem dX11_begins_137 : decode cX11_begins 137 = .ok (.iaload, 1) := by decide +kernel
theorem dX11_begins_138 : decode cX11_begins 138 = .ok (.iastore, 1) := by decide +kernel
theorem dX11_begins_139 : decode cX11_begins 139 = .ok (.aload_n 0, 1) := by decide +kernel
theorem dX11_begins_140 : decode cX11_begins 140 = .ok (.getfield 39, 3) := by decide +kernel
theorem dX11_begins_143 : decode cX11_begins 143 = .ok (.bipush 29, 2) := by decide +kernel
theorem dX11_begins_145 : decode cX11_begins 145 = .ok (.iconst 3, 1) := by decide +kernel
theorem dX11_begins_146 : decode cX11_begins 146 = .ok (.iload_n 1, 1) := by decide +kernel
theorem dX11_begins_147 : decode cX11_begins 147 = .ok (.imul, 1) := by decide +kernel
theorem dX11_begins_148 : decode cX11_begins 148 = .ok (.iadd, 1) := by decide +kernel
theorem dX11_begins_149 : decode cX11_begins 149 = .ok (.iconst 2, 1) := by decide +kernel
theorem dX11_begins_150 : decode cX11_begins 150 = .ok (.iadd, 1) := by decide +kernel
theorem dX11_begins_151 : decode cX11_begins 151 = .ok (.iconst 0, 1) := by decide +kernel
theorem dX11_begins_152 : decode cX11_begins 152 = .ok (.iastore, 1) := by decide +kernel
theorem dX11_begins_153 : decode cX11_begins 153 = .ok (.iinc 1 1, 3) := by decide +kernel
theorem dX11_begins_156 : decode cX11_begins 156 = .ok (.goto (-70), 3) := by decide +kernel
theorem dX11_begins_159 : decode cX11_begins 159 = .ok (.return_, 1) := by decide +kernel
theorem dX11_charges_0 : decode cX11_charges 0 = .ok (.iconst 0, 1) := by decide +kernel
theorem dX11_charges_1 : decode cX11_charges 1 = .ok (.istore_n 1, 1) := by decide +kernel
theorem dX11_charges_2 : decode cX11_charges 2 = .ok (.iconst 0, 1) := by decide +kernel
theorem dX11_charges_3 : decode cX11_charges 3 = .ok (.istore_n 2, 1) := by decide +kernel
theorem dX11_charges_4 : decode cX11_charges 4 = .ok (.iload_n 2, 1) := by decide +kernel
theorem dX11_charges_5 : decode cX11_charges 5 = .ok (.aload_n 0, 1) := by decide +kernel
theorem dX11_charges_6 : decode cX11_charges 6 = .ok (.getfield 39, 3) := by decide +kernel
theorem dX11_charges_9 : decode cX11_charges 9 = .ok (.iconst 4, 1) := by decide +kernel
theorem dX11_charges_10 : decode cX11_charges 10 = .ok (.iaload, 1) := by decide +kernel
theorem dX11_charges_11 : decode cX11_charges 11 = .ok (.if_icmp .ge 17, 3) := by decide +kernel
theorem dX11_charges_14 : decode cX11_charges 14 = .ok (.iload_n 1, 1) := by decide +kernel
theorem dX11_charges_15 : decode cX11_charges 15 = .ok (.aload_n 0, 1) := by decide +kernel
theorem dX11_charges_16 : decode cX11_charges 16 = .ok (.iload_n 2, 1) := by decide +kernel
theorem dX11_charges_17 : decode cX11_charges 17 = .ok (.invokevirtual 294, 3) := by decide +kernel
theorem dX11_charges_20 : decode cX11_charges 20 = .ok (.iadd, 1) := by decide +kernel
theorem dX11_charges_21 : decode cX11_charges 21 = .ok (.istore_n 1, 1) := by decide +kernel
theorem dX11_charges_22 : decode cX11_charges 22 = .ok (.iinc 2 1, 3) := by decide +kernel
theorem dX11_charges_25 : decode cX11_charges 25 = .ok (.goto (-21), 3) := by decide +kernel
theorem dX11_charges_28 : decode cX11_charges 28 = .ok (.iload_n 1, 1) := by decide +kernel
theorem dX11_charges_29 : decode cX11_charges 29 = .ok (.ireturn, 1) := by decide +kernel
theorem dX11_homeOnes_0 : decode cX11_homeOnes 0 = .ok (.iconst 0, 1) := by decide +kernel
theorem dX11_homeOnes_1 : decode cX11_homeOnes 1 = .ok (.istore_n 1, 1) := by decide +kernel
theorem dX11_homeOnes_2 : decode cX11_homeOnes 2 = .ok (.iconst 0, 1) := by decide +kernel
theorem dX11_homeOnes_3 : decode cX11_homeOnes 3 = .ok (.istore_n 2, 1) := by decide +kernel
theorem dX11_homeOnes_4 : decode cX11_homeOnes 4 = .ok (.iload_n 2, 1) := by decide +kernel
theorem dX11_homeOnes_5 : decode cX11_homeOnes 5 = .ok (.aload_n 0, 1) := by decide +kernel
theorem dX11_homeOnes_6 : decode cX11_homeOnes 6 = .ok (.getfield 39, 3) := by decide +kernel
theorem dX11_homeOnes_9 : decode cX11_homeOnes 9 = .ok (.iconst 4, 1) := by decide +kernel
theorem dX11_homeOnes_10 : decode cX11_homeOnes 10 = .ok (.iaload, 1) := by decide +kernel
theorem dX11_homeOnes_11 : decode cX11_homeOnes 11 = .ok (.if_icmp .ge 36, 3) := by decide +kernel
theorem dX11_homeOnes_14 : decode cX11_homeOnes 14 = .ok (.iload_n 1, 1) := by decide +kernel
theorem dX11_homeOnes_15 : decode cX11_homeOnes 15 = .ok (.aload_n 0, 1) := by decide +kernel
theorem dX11_homeOnes_16 : decode cX11_homeOnes 16 = .ok (.iload_n 2, 1) := by decide +kernel
theorem dX11_homeOnes_17 : decode cX11_homeOnes 17 = .ok (.invokevirtual 291, 3) := by decide +kernel
theorem dX11_homeOnes_20 : decode cX11_homeOnes 20 = .ok (.aload_n 0, 1) := by decide +kernel
theorem dX11_homeOnes_21 : decode cX11_homeOnes 21 = .ok (.getfield 39, 3) := by decide +kernel
theorem dX11_homeOnes_24 : decode cX11_homeOnes 24 = .ok (.bipush 56, 2) := by decide +kernel
theorem dX11_homeOnes_26 : decode cX11_homeOnes 26 = .ok (.iload_n 2, 1) := by decide +kernel
theorem dX11_homeOnes_27 : decode cX11_homeOnes 27 = .ok (.iadd, 1) := by decide +kernel
theorem dX11_homeOnes_28 : decode cX11_homeOnes 28 = .ok (.iaload, 1) := by decide +kernel
theorem dX11_homeOnes_29 : decode cX11_homeOnes 29 = .ok (.if_icmp .ne 9, 3) := by decide +kernel
theorem dX11_homeOnes_32 : decode cX11_homeOnes 32 = .ok (.iconst 1, 1) := by decide +kernel
theorem dX11_homeOnes_33 : decode cX11_homeOnes 33 = .ok (.iload_n 2, 1) := by decide +kernel
theorem dX11_homeOnes_34 : decode cX11_homeOnes 34 = .ok (.ishl, 1) := by decide +kernel
theorem dX11_homeOnes_35 : decode cX11_homeOnes 35 = .ok (.goto 4, 3) := by decide +kernel
theorem dX11_homeOnes_38 : decode cX11_homeOnes 38 = .ok (.iconst 0, 1) := by decide +kernel
theorem dX11_homeOnes_39 : decode cX11_homeOnes 39 = .ok (.ior, 1) := by decide +kernel
theorem dX11_homeOnes_40 : decode cX11_homeOnes 40 = .ok (.istore_n 1, 1) := by decide +kernel
theorem dX11_homeOnes_41 : decode cX11_homeOnes 41 = .ok (.iinc 2 1, 3) := by decide +kernel
theorem dX11_homeOnes_44 : decode cX11_homeOnes 44 = .ok (.goto (-40), 3) := by decide +kernel
theorem dX11_homeOnes_47 : decode cX11_homeOnes 47 = .ok (.iload_n 1, 1) := by decide +kernel
theorem dX11_homeOnes_48 : decode cX11_homeOnes 48 = .ok (.ireturn, 1) := by decide +kernel
theorem dX11_laidOnes_0 : decode cX11_laidOnes 0 = .ok (.iconst 0, 1) := by decide +kernel
theorem dX11_laidOnes_1 : decode cX11_laidOnes 1 = .ok (.istore_n 1, 1) := by decide +kernel
theorem dX11_laidOnes_2 : decode cX11_laidOnes 2 = .ok (.iconst 0, 1) := by decide +kernel
theorem dX11_laidOnes_3 : decode cX11_laidOnes 3 = .ok (.istore_n 2, 1) := by decide +kernel
theorem dX11_laidOnes_4 : decode cX11_laidOnes 4 = .ok (.iload_n 2, 1) := by decide +kernel
theorem dX11_laidOnes_5 : decode cX11_laidOnes 5 = .ok (.aload_n 0, 1) := by decide +kernel
theorem dX11_laidOnes_6 : decode cX11_laidOnes 6 = .ok (.getfield 39, 3) := by decide +kernel
theorem dX11_laidOnes_9 : decode cX11_laidOnes 9 = .ok (.iconst 3, 1) := by decide +kernel
theorem dX11_laidOnes_10 : decode cX11_laidOnes 10 = .ok (.iaload, 1) := by decide +kernel
theorem dX11_laidOnes_11 : decode cX11_laidOnes 11 = .ok (.if_icmp .ge 27, 3) := by decide +kernel
theorem dX11_laidOnes_14 : decode cX11_laidOnes 14 = .ok (.iload_n 1, 1) := by decide +kernel
theorem dX11_laidOnes_15 : decode cX11_laidOnes 15 = .ok (.aload_n 0, 1) := by decide +kernel
theorem dX11_laidOnes_16 : decode cX11_laidOnes 16 = .ok (.iload_n 2, 1) := by decide +kernel
theorem dX11_laidOnes_17 : decode cX11_laidOnes 17 = .ok (.invokevirtual 288, 3) := by decide +kernel
theorem dX11_laidOnes_20 : decode cX11_laidOnes 20 = .ok (.ifCond .eq 9, 3) := by decide +kernel
theorem dX11_laidOnes_23 : decode cX11_laidOnes 23 = .ok (.iconst 1, 1) := by decide +kernel
theorem dX11_laidOnes_24 : decode cX11_laidOnes 24 = .ok (.iload_n 2, 1) := by decide +kernel
theorem dX11_laidOnes_25 : decode cX11_laidOnes 25 = .ok (.ishl, 1) := by decide +kernel
theorem dX11_laidOnes_26 : decode cX11_laidOnes 26 = .ok (.goto 4, 3) := by decide +kernel
theorem dX11_laidOnes_29 : decode cX11_laidOnes 29 = .ok (.iconst 0, 1) := by decide +kernel
theorem dX11_laidOnes_30 : decode cX11_laidOnes 30 = .ok (.ior, 1) := by decide +kernel
theorem dX11_laidOnes_31 : decode cX11_laidOnes 31 = .ok (.istore_n 1, 1) := by decide +kernel
theorem dX11_laidOnes_32 : decode cX11_laidOnes 32 = .ok (.iinc 2 1, 3) := by decide +kernel
theorem dX11_laidOnes_35 : decode cX11_laidOnes 35 = .ok (.goto (-31), 3) := by decide +kernel
theorem dX11_laidOnes_38 : decode cX11_laidOnes 38 = .ok (.iload_n 1, 1) := by decide +kernel
theorem dX11_laidOnes_39 : decode cX11_laidOnes 39 = .ok (.ireturn, 1) := by decide +kernel
theorem dX11_spread_0 : decode cX11_spread 0 = .ok (.iload_n 1, 1) := by decide +kernel
theorem dX11_spread_1 : decode cX11_spread 1 = .ok (.istore_n 3, 1) := by decide +kernel
theorem dX11_spread_2 : decode cX11_spread 2 = .ok (.iconst 0, 1) := by decide +kernel
theorem dX11_spread_3 : decode cX11_spread 3 = .ok (.istore 4, 2) := by decide +kernel
theorem dX11_spread_5 : decode cX11_spread 5 = .ok (.iload 4, 2) := by decide +kernel
theorem dX11_spread_7 : decode cX11_spread 7 = .ok (.aload_n 0, 1) := by decide +kernel
theorem dX11_spread_8 : decode cX11_spread 8 = .ok (.getfield 39, 3) := by decide +kernel
theorem dX11_spread_11 : decode cX11_spread 11 = .ok (.iconst 1, 1) := by decide +kernel
theorem dX11_spread_12 : decode cX11_spread 12 = .ok (.iaload, 1) := by decide +kernel
theorem dX11_spread_13 : decode cX11_spread 13 = .ok (.if_icmp .ge 31, 3) := by decide +kernel
theorem dX11_spread_16 : decode cX11_spread 16 = .ok (.iload_n 1, 1) := by decide +kernel
theorem dX11_spread_17 : decode cX11_spread 17 = .ok (.iload 4, 2) := by decide +kernel
theorem dX11_spread_19 : decode cX11_spread 19 = .ok (.invokestatic 297, 3) := by decide +kernel
theorem dX11_spread_22 : decode cX11_spread 22 = .ok (.ifCond .eq 16, 3) := by decide +kernel
theorem dX11_spread_25 : decode cX11_spread 25 = .ok (.iload_n 3, 1) := by decide +kernel
theorem dX11_spread_26 : decode cX11_spread 26 = .ok (.aload_n 0, 1) := by decide +kernel
theorem dX11_spread_27 : decode cX11_spread 27 = .ok (.getfield 39, 3) := by decide +kernel
theorem dX11_spread_30 : decode cX11_spread 30 = .ok (.bipush 88, 2) := by decide +kernel
theorem dX11_spread_32 : decode cX11_spread 32 = .ok (.iload 4, 2) := by decide +kernel
theorem dX11_spread_34 : decode cX11_spread 34 = .ok (.iadd, 1) := by decide +kernel
theorem dX11_spread_35 : decode cX11_spread 35 = .ok (.iaload, 1) := by decide +kernel
theorem dX11_spread_36 : decode cX11_spread 36 = .ok (.ior, 1) := by decide +kernel
theorem dX11_spread_37 : decode cX11_spread 37 = .ok (.istore_n 3, 1) := by decide +kernel
theorem dX11_spread_38 : decode cX11_spread 38 = .ok (.iinc 4 1, 3) := by decide +kernel
theorem dX11_spread_41 : decode cX11_spread 41 = .ok (.goto (-36), 3) := by decide +kernel
theorem dX11_spread_44 : decode cX11_spread 44 = .ok (.iload_n 3, 1) := by decide +kernel
theorem dX11_spread_45 : decode cX11_spread 45 = .ok (.iload_n 2, 1) := by decide +kernel
theorem dX11_spread_46 : decode cX11_spread 46 = .ok (.iconst (-1), 1) := by decide +kernel
theorem dX11_spread_47 : decode cX11_spread 47 = .ok (.ixor, 1) := by decide +kernel
theorem dX11_spread_48 : decode cX11_spread 48 = .ok (.iand, 1) := by decide +kernel
theorem dX11_spread_49 : decode cX11_spread 49 = .ok (.ireturn, 1) := by decide +kernel
theorem dX11_waysTold_0 : decode cX11_waysTold 0 = .ok (.iload_n 0, 1) := by decide +kernel
theorem dX11_waysTold_1 : decode cX11_waysTold 1 = .ok (.bipush 99, 2) := by decide +kernel
theorem dX11_waysTold_3 : decode cX11_waysTold 3 = .ok (.if_icmp .ne 8, 3) := by decide +kernel
theorem dX11_waysTold_6 : decode cX11_waysTold 6 = .ok (.bipush (-2), 2) := by decide +kernel
theorem dX11_waysTold_8 : decode cX11_waysTold 8 = .ok (.goto 4, 3) := by decide +kernel
theorem dX11_waysTold_11 : decode cX11_waysTold 11 = .ok (.iload_n 0, 1) := by decide +kernel
theorem dX11_waysTold_12 : decode cX11_waysTold 12 = .ok (.ireturn, 1) := by decide +kernel
theorem dX11_wouldHave_0 : decode cX11_wouldHave 0 = .ok (.aload_n 0, 1) := by decide +kernel
theorem dX11_wouldHave_1 : decode cX11_wouldHave 1 = .ok (.iload_n 1, 1) := by decide +kernel
theorem dX11_wouldHave_2 : decode cX11_wouldHave 2 = .ok (.invokevirtual 314, 3) := by decide +kernel
theorem dX11_wouldHave_5 : decode cX11_wouldHave 5 = .ok (.aload_n 0, 1) := by decide +kernel
theorem dX11_wouldHave_6 : decode cX11_wouldHave 6 = .ok (.getfield 39, 3) := by decide +kernel
theorem dX11_wouldHave_9 : decode cX11_wouldHave 9 = .ok (.bipush 61, 2) := by decide +kernel
theorem dX11_wouldHave_11 : decode cX11_wouldHave 11 = .ok (.iload_n 2, 1) := by decide +kernel
theorem dX11_wouldHave_12 : decode cX11_wouldHave 12 = .ok (.iadd, 1) := by decide +kernel
theorem dX11_wouldHave_13 : decode cX11_wouldHave 13 = .ok (.iaload, 1) := by decide +kernel
theorem dX11_wouldHave_14 : decode cX11_wouldHave 14 = .ok (.if_icmp .ne 24, 3) := by decide +kernel
theorem dX11_wouldHave_17 : decode cX11_wouldHave 17 = .ok (.aload_n 0, 1) := by decide +kernel
theorem dX11_wouldHave_18 : decode cX11_wouldHave 18 = .ok (.getfield 39, 3) := by decide +kernel
theorem dX11_wouldHave_21 : decode cX11_wouldHave 21 = .ok (.bipush 44, 2) := by decide +kernel
theorem dX11_wouldHave_23 : decode cX11_wouldHave 23 = .ok (.iload_n 1, 1) := by decide +kernel
theorem dX11_wouldHave_24 : decode cX11_wouldHave 24 = .ok (.iadd, 1) := by decide +kernel
theorem dX11_wouldHave_25 : decode cX11_wouldHave 25 = .ok (.iaload, 1) := by decide +kernel
theorem dX11_wouldHave_26 : decode cX11_wouldHave 26 = .ok (.aload_n 0, 1) := by decide +kernel
theorem dX11_wouldHave_27 : decode cX11_wouldHave 27 = .ok (.iload_n 2, 1) := by decide +kernel
theorem dX11_wouldHave_28 : decode cX11_wouldHave 28 = .ok (.invokevirtual 320, 3) := by decide +kernel
theorem dX11_wouldHave_31 : decode cX11_wouldHave 31 = .ok (.if_icmp .le 7, 3) := by decide +kernel
theorem dX11_wouldHave_34 : decode cX11_wouldHave 34 = .ok (.iconst 1, 1) := by decide +kernel
theorem dX11_wouldHave_35 : decode cX11_wouldHave 35 = .ok (.goto 4, 3) := by decide +kernel
theorem dX11_wouldHave_38 : decode cX11_wouldHave 38 = .ok (.iconst 0, 1) := by decide +kernel
theorem dX11_wouldHave_39 : decode cX11_wouldHave 39 = .ok (.ireturn, 1) := by decide +kernel
theorem hd_X11_chargeOf : yX11_chargeOf.cls ≠ "java/lang/invoke/MethodHandle" ∧ yX11_chargeOf.cls ≠ "java/lang/invoke/VarHandle" ∧ (parseMethodDescriptor yX11_chargeOf.desc).map (fun d => d.parameters.length) = some 1 := ⟨by decide +kernel, by decide +kernel, by decide +kernel⟩
theorem hd_X11_cornerOf : yX11_cornerOf.cls ≠ "java/lang/invoke/MethodHandle" ∧ yX11_cornerOf.cls ≠ "java/lang/invoke/VarHandle" ∧ (parseMethodDescriptor yX11_cornerOf.desc).map (fun d => d.parameters.length) = some 1 := ⟨by decide +kernel, by decide +kernel, by decide +kernel⟩
theorem hd_X11_isLaid : yX11_isLaid.cls ≠ "java/lang/invoke/MethodHandle" ∧ yX11_isLaid.cls ≠ "java/lang/invoke/VarHandle" ∧ (parseMethodDescriptor yX11_isLaid.desc).map (fun d => d.parameters.length) = some 1 := ⟨by decide +kernel, by decide +kernel, by decide +kernel⟩
theorem hd_X11_isOf : yX11_isOf.cls ≠ "java/lang/invoke/MethodHandle" ∧ yX11_isOf.cls ≠ "java/lang/invoke/VarHandle" ∧ (parseMethodDescriptor yX11_isOf.desc).map (fun d => d.parameters.length) = some 2 := ⟨by decide +kernel, by decide +kernel, by decide +kernel⟩
theorem hd_X11_kindOf : yX11_kindOf.cls ≠ "java/lang/invoke/MethodHandle" ∧ yX11_kindOf.cls ≠ "java/lang/invoke/VarHandle" ∧ (parseMethodDescriptor yX11_kindOf.desc).map (fun d => d.parameters.length) = some 1 := ⟨by decide +kernel, by decide +kernel, by decide +kernel⟩
theorem hd_X11_waryOf : yX11_waryOf.cls ≠ "java/lang/invoke/MethodHandle" ∧ yX11_waryOf.cls ≠ "java/lang/invoke/VarHandle" ∧ (parseMethodDescriptor yX11_waryOf.desc).map (fun d => d.parameters.length) = some 1 := ⟨by decide +kernel, by decide +kernel, by decide +kernel⟩
set_option maxHeartbeats 4000000 in
set_option maxRecDepth 100000 in
theorem v_laidOnes (l : Launch) (D : va_G) (K : Nat → ClassId) (ad : Nat → Nat) (z : TS) (o : Ok z) : cI l yX11_laidOnes cX11_laidOnes 3 .int ({ frames := 2, cells := 0, slots := 0, locals := 42 }) D K ad z [.ref (ad 386)] (fun r u => u = z) := by
  refine t_enterI (by decide) (Nat.le_of_ble_eq_true rfl) rfl rfl ?_
  intro p e s m args below meth c A R Q H locs ls E hfr hlo RET G hl
  have E : mE p s m meth c cX11_laidOnes args 3 RX11 D K A := E
  have hl : lv_has ls 3 [(0, .ref (ad 386))] := hl
  refine lv_iconst (v := 0) E.1 E.2.1 dX11_laidOnes_0 (by decide) ?_
  refine lv_istore_n (lv' := [(1, .int 0), (0, .ref (ad 386))]) E.1 E.2.1 dX11_laidOnes_1 rfl hl (by decide) rfl (fun ls hl => ?_)
  refine lv_iconst (v := 0) E.1 E.2.1 dX11_laidOnes_2 (by decide) ?_
  refine lv_istore_n (lv' := [(2, .int 0), (1, .int 0), (0, .ref (ad 386))]) E.1 E.2.1 dX11_laidOnes_3 rfl hl (by decide) rfl (fun ls hl => ?_)
  have LOOP4 : ∀ n : Nat, ∀ (y1 : Int32) (y2 : Int32) (H : Heap) (locs : List Loc) (ls : Array Slot), mG D A s H locs (wd K ad z) → iv 0 6 y1 → 6 < y1.toInt + (n : Int) → lv_has ls 3 [(2, .int y1), (1, .int y2), (0, .ref (ad 386))] → W p l e R s m args below meth c H locs 0 0 Q (F0 m 4 ls []) := by
    intro n
    induction n with
    | zero =>
      intro y1 y2 H locs ls G b7 m6 hl
      exact absurd m6 (by have := b7.1; have := b7.2; omega)
    | succ n ih4 =>
      intro y1 y2 H locs ls G b7 m6 hl
      refine lv_iload_n E.1 E.2.1 dX11_laidOnes_4 rfl (lv_at hl 0 rfl) ?_
      refine lv_aload_n E.1 E.2.1 dX11_laidOnes_5 rfl (lv_at hl 2 rfl) ?_
      refine t_get E G 11 20 (rfl : ro 386 = 11) (C := RX11) (T := TX11) (N := 37) rfl (by decide) (by decide) (by decide) mw_fl_11_39 (v := .ref (ad 396)) (fvl_o (n := 10) rfl) dX11_laidOnes_6 ?_
      refine lv_iconst (v := 3) E.1 E.2.1 dX11_laidOnes_9 (by decide) ?_
      refine t_iald E G 54 (rfl : ro 396 = 54) (by decide) (by decide) rfl (n := 127) rfl (by unfold vp_in; decide) dX11_laidOnes_10 ?_
      refine lv_topi (fun v8 e9 => ?_)
      have b10 : iv 0 6 v8 := by rw [e9]; exact iv_mono (o.a 54 (rfl : ro 396 = 54) _) (by decide +kernel) (by decide +kernel)
      refine lv_icmp_ge (tgt := 38) E.1 E.2.1 dX11_laidOnes_11 (by decide) (fun c11 => ?_) (fun c11 => ?_)
      · skip
        refine lv_iload_n E.1 E.2.1 dX11_laidOnes_38 rfl (lv_at hl 1 rfl) ?_
        exact RET G rfl rfl dX11_laidOnes_39
      · skip
        have b12 : iv 0 5 y1 := lt_l (Int32.not_le.mp c11) b7 b10 (by decide)
        have b13 : iv 1 6 v8 := lt_r (Int32.not_le.mp c11) b7 b10 (by decide)
        refine lv_iload_n E.1 E.2.1 dX11_laidOnes_14 rfl (lv_at hl 1 rfl) ?_
        refine lv_aload_n E.1 E.2.1 dX11_laidOnes_15 rfl (lv_at hl 2 rfl) ?_
        refine lv_iload_n E.1 E.2.1 dX11_laidOnes_16 rfl (lv_at hl 0 rfl) ?_
        refine t_vi E G hl (v_isLaid l D K ad z o y1) 11 (rfl : ro 386 = 11) (by decide) rfl rfl 1 rfl mw_code_X11_isLaid mw_ini_11 mw_ml_11_288 mw_inst_X11_isLaid mw_sel_X11_isLaid hd_X11_isLaid ⟨Nat.le_trans (by decide) hfr, Nat.le_trans (by decide) hlo⟩ rfl rfl rfl (Nat.le_of_ble_eq_true rfl) dX11_laidOnes_17 (fun r15 zz14 H locs hp16 G => ?_)
        obtain ⟨hz19, b17, h18⟩ := hp16
        rw [hz19] at G
        refine lv_if_eq (tgt := 29) E.1 E.2.1 dX11_laidOnes_20 (by decide) (fun c20 => ?_) (fun c20 => ?_)
        · skip
          have b21 : iv 0 0 r15 := iv_eq c20 (iv_lit (lo := 0) (hi := 0) 0 (by decide) (by decide))
          refine lv_iconst (v := 0) E.1 E.2.1 dX11_laidOnes_29 (by decide) ?_
          refine lv_ior E.1 E.2.1 dX11_laidOnes_30 ?_
          refine lv_topi (fun v22 e23 => ?_)
          refine lv_istore_n (lv' := [(1, .int v22), (2, .int y1), (0, .ref (ad 386))]) E.1 E.2.1 dX11_laidOnes_31 rfl hl (by decide) rfl (fun ls hl => ?_)
          obtain ⟨v24, e25⟩ : ∃ w : Int32, w = y1 + (1 : Int32) := ⟨_, rfl⟩
          refine lv_iinc (v := v24) (lv' := [(2, .int v24), (1, .int v22), (0, .ref (ad 386))]) E.1 E.2.1 dX11_laidOnes_32 hl (k := 1) rfl (by rw [e25]; rfl) (by decide) rfl (fun ls hl => ?_)
          have b26 : iv 1 6 v24 := by rw [e25]; exact iv_add b12 (iv_lit (lo := 1) (hi := 1) 1 (by decide) (by decide)) (by decide) (by decide) (by decide) (by decide)
          have t27 : v24.toInt = y1.toInt + 1 := by rw [e25]; exact ti_addc 1 (by decide) b12 (by decide) (by decide)
          refine lv_goto (tgt := 4) E.1 E.2.1 dX11_laidOnes_35 (by decide) ?_
          exact ih4 v24 v22 H locs ls G (iv_mono b26 (by decide) (by decide)) (by have := t27; have := m6; omega) (lv_sub hl [0, 1, 2] rfl)
        · skip
          have b28 : iv 1 1 r15 := ne_lo c20 b17 (by decide) (by decide)
          refine lv_iconst (v := 1) E.1 E.2.1 dX11_laidOnes_23 (by decide) ?_
          refine lv_iload_n E.1 E.2.1 dX11_laidOnes_24 rfl (lv_at hl 0 rfl) ?_
          refine lv_ishl E.1 E.2.1 dX11_laidOnes_25 ?_
          refine lv_topi (fun v29 e30 => ?_)
          have b31 : iv 1 256 v29 := by rw [e30]; exact iv_shl8 (iv_mono b12 (by decide) (by decide))
          refine lv_goto (tgt := 30) E.1 E.2.1 dX11_laidOnes_26 (by decide) ?_
          refine lv_ior E.1 E.2.1 dX11_laidOnes_30 ?_
          refine lv_topi (fun v32 e33 => ?_)
          refine lv_istore_n (lv' := [(1, .int v32), (2, .int y1), (0, .ref (ad 386))]) E.1 E.2.1 dX11_laidOnes_31 rfl hl (by decide) rfl (fun ls hl => ?_)
          obtain ⟨v34, e35⟩ : ∃ w : Int32, w = y1 + (1 : Int32) := ⟨_, rfl⟩
          refine lv_iinc (v := v34) (lv' := [(2, .int v34), (1, .int v32), (0, .ref (ad 386))]) E.1 E.2.1 dX11_laidOnes_32 hl (k := 1) rfl (by rw [e35]; rfl) (by decide) rfl (fun ls hl => ?_)
          have b36 : iv 1 6 v34 := by rw [e35]; exact iv_add b12 (iv_lit (lo := 1) (hi := 1) 1 (by decide) (by decide)) (by decide) (by decide) (by decide) (by decide)
          have t37 : v34.toInt = y1.toInt + 1 := by rw [e35]; exact ti_addc 1 (by decide) b12 (by decide) (by decide)
          refine lv_goto (tgt := 4) E.1 E.2.1 dX11_laidOnes_35 (by decide) ?_
          exact ih4 v34 v32 H locs ls G (iv_mono b36 (by decide) (by decide)) (by have := t37; have := m6; omega) (lv_sub hl [0, 1, 2] rfl)
  exact LOOP4 7 0 0 H locs ls G (iv_mono (iv_lit (lo := 0) (hi := 0) 0 (by decide) (by decide)) (by decide) (by decide)) (by have := (iv_lit (lo := 0) (hi := 0) 0 (by decide) (by decide)).1; omega) (lv_sub hl [0, 1, 2] rfl)
set_option maxHeartbeats 4000000 in
set_option maxRecDepth 100000 in
theorem v_homeOnes (l : Launch) (D : va_G) (K : Nat → ClassId) (ad : Nat → Nat) (z : TS) (o : Ok z) : cI l yX11_homeOnes cX11_homeOnes 3 .int ({ frames := 1, cells := 0, slots := 0, locals := 21 }) D K ad z [.ref (ad 386)] (fun r u => u = z) := by
  refine t_enterI (by decide) (Nat.le_of_ble_eq_true rfl) rfl rfl ?_
  intro p e s m args below meth c A R Q H locs ls E hfr hlo RET G hl
  have E : mE p s m meth c cX11_homeOnes args 3 RX11 D K A := E
  have hl : lv_has ls 3 [(0, .ref (ad 386))] := hl
  refine lv_iconst (v := 0) E.1 E.2.1 dX11_homeOnes_0 (by decide) ?_
  refine lv_istore_n (lv' := [(1, .int 0), (0, .ref (ad 386))]) E.1 E.2.1 dX11_homeOnes_1 rfl hl (by decide) rfl (fun ls hl => ?_)
  refine lv_iconst (v := 0) E.1 E.2.1 dX11_homeOnes_2 (by decide) ?_
  refine lv_istore_n (lv' := [(2, .int 0), (1, .int 0), (0, .ref (ad 386))]) E.1 E.2.1 dX11_homeOnes_3 rfl hl (by decide) rfl (fun ls hl => ?_)
  have LOOP4 : ∀ n : Nat, ∀ (y1 : Int32) (y2 : Int32) (H : Heap) (locs : List Loc) (ls : Array Slot), mG D A s H locs (wd K ad z) → iv 0 5 y1 → 5 < y1.toInt + (n : Int) → lv_has ls 3 [(2, .int y1), (1, .int y2), (0, .ref (ad 386))] → W p l e R s m args below meth c H locs 0 0 Q (F0 m 4 ls []) := by
    intro n
    induction n with
    | zero =>
      intro y1 y2 H locs ls G b7 m6 hl
      exact absurd m6 (by have := b7.1; have := b7.2; omega)
    | succ n ih4 =>
      intro y1 y2 H locs ls G b7 m6 hl
      refine lv_iload_n E.1 E.2.1 dX11_homeOnes_4 rfl (lv_at hl 0 rfl) ?_
      refine lv_aload_n E.1 E.2.1 dX11_homeOnes_5 rfl (lv_at hl 2 rfl) ?_
      refine t_get E G 11 20 (rfl : ro 386 = 11) (C := RX11) (T := TX11) (N := 37) rfl (by decide) (by decide) (by decide) mw_fl_11_39 (v := .ref (ad 396)) (fvl_o (n := 10) rfl) dX11_homeOnes_6 ?_
      refine lv_iconst (v := 4) E.1 E.2.1 dX11_homeOnes_9 (by decide) ?_
      refine t_iald E G 54 (rfl : ro 396 = 54) (by decide) (by decide) rfl (n := 127) rfl (by unfold vp_in; decide) dX11_homeOnes_10 ?_
      refine lv_topi (fun v8 e9 => ?_)
      have b10 : iv 0 5 v8 := by rw [e9]; exact iv_mono (o.a 54 (rfl : ro 396 = 54) _) (by decide +kernel) (by decide +kernel)
      refine lv_icmp_ge (tgt := 47) E.1 E.2.1 dX11_homeOnes_11 (by decide) (fun c11 => ?_) (fun c11 => ?_)
      · skip
        refine lv_iload_n E.1 E.2.1 dX11_homeOnes_47 rfl (lv_at hl 1 rfl) ?_
        exact RET G rfl rfl dX11_homeOnes_48
      · skip
        have b12 : iv 0 4 y1 := lt_l (Int32.not_le.mp c11) b7 b10 (by decide)
        have b13 : iv 1 5 v8 := lt_r (Int32.not_le.mp c11) b7 b10 (by decide)
        refine lv_iload_n E.1 E.2.1 dX11_homeOnes_14 rfl (lv_at hl 1 rfl) ?_
        refine lv_aload_n E.1 E.2.1 dX11_homeOnes_15 rfl (lv_at hl 2 rfl) ?_
        refine lv_iload_n E.1 E.2.1 dX11_homeOnes_16 rfl (lv_at hl 0 rfl) ?_
        refine t_vi E G hl (v_cornerOf l D K ad z o y1 (iv_mono b12 (by decide) (by decide))) 11 (rfl : ro 386 = 11) (by decide) rfl rfl 1 rfl mw_code_X11_cornerOf mw_ini_11 mw_ml_11_291 mw_inst_X11_cornerOf mw_sel_X11_cornerOf hd_X11_cornerOf ⟨Nat.le_trans (by decide) hfr, Nat.le_trans (by decide) hlo⟩ rfl rfl rfl (Nat.le_of_ble_eq_true rfl) dX11_homeOnes_17 (fun r15 zz14 H locs hp16 G => ?_)
        obtain ⟨hz18, b17⟩ := hp16
        rw [hz18] at G
        refine lv_aload_n E.1 E.2.1 dX11_homeOnes_20 rfl (lv_at hl 2 rfl) ?_
        refine t_get E G 11 20 (rfl : ro 386 = 11) (C := RX11) (T := TX11) (N := 37) rfl (by decide) (by decide) (by decide) mw_fl_11_39 (v := .ref (ad 396)) (fvl_o (n := 10) rfl) dX11_homeOnes_21 ?_
        refine lv_bipush (v := 56) E.1 E.2.1 dX11_homeOnes_24 (by decide) ?_
        refine lv_iload_n E.1 E.2.1 dX11_homeOnes_26 rfl (lv_at hl 0 rfl) ?_
        refine lv_iadd E.1 E.2.1 dX11_homeOnes_27 ?_
        refine lv_topi (fun v19 e20 => ?_)
        have b21 : iv 56 60 v19 := by rw [e20]; exact iv_add (iv_lit (lo := 56) (hi := 56) 56 (by decide) (by decide)) b12 (by decide) (by decide) (by decide) (by decide)
        have l22 : v19.toInt = 56 + 1 * y1.toInt := (show v19.toInt = 56 + y1.toInt by rw [e20]; exact ti_cadd 56 (by decide) b12 (by decide) (by decide)).trans (by omega)
        refine t_iald E G 54 (rfl : ro 396 = 54) (by decide) (by decide) rfl (n := 127) rfl (iv_vp b21 (by decide) (by decide)) dX11_homeOnes_28 ?_
        refine lv_topi (fun v23 e24 => ?_)
        have b25 : iv 0 7 v23 := by rw [e24]; exact rd1 o 54 (rfl : ro 396 = 54) 56 1 0 4 b12 (l22.trans (by omega)) (by decide +kernel)
        refine lv_icmp_ne (tgt := 38) E.1 E.2.1 dX11_homeOnes_29 (by decide) (fun c26 => ?_) (fun c26 => ?_)
        · skip
          refine lv_iconst (v := 0) E.1 E.2.1 dX11_homeOnes_38 (by decide) ?_
          refine lv_ior E.1 E.2.1 dX11_homeOnes_39 ?_
          refine lv_topi (fun v27 e28 => ?_)
          refine lv_istore_n (lv' := [(1, .int v27), (2, .int y1), (0, .ref (ad 386))]) E.1 E.2.1 dX11_homeOnes_40 rfl hl (by decide) rfl (fun ls hl => ?_)
          obtain ⟨v29, e30⟩ : ∃ w : Int32, w = y1 + (1 : Int32) := ⟨_, rfl⟩
          refine lv_iinc (v := v29) (lv' := [(2, .int v29), (1, .int v27), (0, .ref (ad 386))]) E.1 E.2.1 dX11_homeOnes_41 hl (k := 1) rfl (by rw [e30]; rfl) (by decide) rfl (fun ls hl => ?_)
          have b31 : iv 1 5 v29 := by rw [e30]; exact iv_add b12 (iv_lit (lo := 1) (hi := 1) 1 (by decide) (by decide)) (by decide) (by decide) (by decide) (by decide)
          have t32 : v29.toInt = y1.toInt + 1 := by rw [e30]; exact ti_addc 1 (by decide) b12 (by decide) (by decide)
          refine lv_goto (tgt := 4) E.1 E.2.1 dX11_homeOnes_44 (by decide) ?_
          exact ih4 v29 v27 H locs ls G (iv_mono b31 (by decide) (by decide)) (by have := t32; have := m6; omega) (lv_sub hl [0, 1, 2] rfl)
        · skip
          refine lv_iconst (v := 1) E.1 E.2.1 dX11_homeOnes_32 (by decide) ?_
          refine lv_iload_n E.1 E.2.1 dX11_homeOnes_33 rfl (lv_at hl 0 rfl) ?_
          refine lv_ishl E.1 E.2.1 dX11_homeOnes_34 ?_
          refine lv_topi (fun v33 e34 => ?_)
          have b35 : iv 1 256 v33 := by rw [e34]; exact iv_shl8 (iv_mono b12 (by decide) (by decide))
          refine lv_goto (tgt := 39) E.1 E.2.1 dX11_homeOnes_35 (by decide) ?_
          refine lv_ior E.1 E.2.1 dX11_homeOnes_39 ?_
          refine lv_topi (fun v36 e37 => ?_)
          refine lv_istore_n (lv' := [(1, .int v36), (2, .int y1), (0, .ref (ad 386))]) E.1 E.2.1 dX11_homeOnes_40 rfl hl (by decide) rfl (fun ls hl => ?_)
          obtain ⟨v38, e39⟩ : ∃ w : Int32, w = y1 + (1 : Int32) := ⟨_, rfl⟩
          refine lv_iinc (v := v38) (lv' := [(2, .int v38), (1, .int v36), (0, .ref (ad 386))]) E.1 E.2.1 dX11_homeOnes_41 hl (k := 1) rfl (by rw [e39]; rfl) (by decide) rfl (fun ls hl => ?_)
          have b40 : iv 1 5 v38 := by rw [e39]; exact iv_add b12 (iv_lit (lo := 1) (hi := 1) 1 (by decide) (by decide)) (by decide) (by decide) (by decide) (by decide)
          have t41 : v38.toInt = y1.toInt + 1 := by rw [e39]; exact ti_addc 1 (by decide) b12 (by decide) (by decide)
          refine lv_goto (tgt := 4) E.1 E.2.1 dX11_homeOnes_44 (by decide) ?_
          exact ih4 v38 v36 H locs ls G (iv_mono b40 (by decide) (by decide)) (by have := t41; have := m6; omega) (lv_sub hl [0, 1, 2] rfl)
  exact LOOP4 6 0 0 H locs ls G (iv_mono (iv_lit (lo := 0) (hi := 0) 0 (by decide) (by decide)) (by decide) (by decide)) (by have := (iv_lit (lo := 0) (hi := 0) 0 (by decide) (by decide)).1; omega) (lv_sub hl [0, 1, 2] rfl)
set_option maxHeartbeats 4000000 in
set_option maxRecDepth 100000 in
theorem v_charges (l : Launch) (D : va_G) (K : Nat → ClassId) (ad : Nat → Nat) (z : TS) (o : Ok z) : cI l yX11_charges cX11_charges 3 .int ({ frames := 1, cells := 0, slots := 0, locals := 21 }) D K ad z [.ref (ad 386)] (fun r u => u = z) := by
  refine t_enterI (by decide) (Nat.le_of_ble_eq_true rfl) rfl rfl ?_
  intro p e s m args below meth c A R Q H locs ls E hfr hlo RET G hl
  have E : mE p s m meth c cX11_charges args 3 RX11 D K A := E
  have hl : lv_has ls 3 [(0, .ref (ad 386))] := hl
  refine lv_iconst (v := 0) E.1 E.2.1 dX11_charges_0 (by decide) ?_
  refine lv_istore_n (lv' := [(1, .int 0), (0, .ref (ad 386))]) E.1 E.2.1 dX11_charges_1 rfl hl (by decide) rfl (fun ls hl => ?_)
  refine lv_iconst (v := 0) E.1 E.2.1 dX11_charges_2 (by decide) ?_
  refine lv_istore_n (lv' := [(2, .int 0), (1, .int 0), (0, .ref (ad 386))]) E.1 E.2.1 dX11_charges_3 rfl hl (by decide) rfl (fun ls hl => ?_)
  have LOOP4 : ∀ n : Nat, ∀ (y1 : Int32) (y2 : Int32) (H : Heap) (locs : List Loc) (ls : Array Slot), mG D A s H locs (wd K ad z) → iv 0 5 y1 → 5 < y1.toInt + (n : Int) → lv_has ls 3 [(2, .int y1), (1, .int y2), (0, .ref (ad 386))] → W p l e R s m args below meth c H locs 0 0 Q (F0 m 4 ls []) := by
    intro n
    induction n with
    | zero =>
      intro y1 y2 H locs ls G b7 m6 hl
      exact absurd m6 (by have := b7.1; have := b7.2; omega)
    | succ n ih4 =>
      intro y1 y2 H locs ls G b7 m6 hl
      refine lv_iload_n E.1 E.2.1 dX11_charges_4 rfl (lv_at hl 0 rfl) ?_
      refine lv_aload_n E.1 E.2.1 dX11_charges_5 rfl (lv_at hl 2 rfl) ?_
      refine t_get E G 11 20 (rfl : ro 386 = 11) (C := RX11) (T := TX11) (N := 37) rfl (by decide) (by decide) (by decide) mw_fl_11_39 (v := .ref (ad 396)) (fvl_o (n := 10) rfl) dX11_charges_6 ?_
      refine lv_iconst (v := 4) E.1 E.2.1 dX11_charges_9 (by decide) ?_
      refine t_iald E G 54 (rfl : ro 396 = 54) (by decide) (by decide) rfl (n := 127) rfl (by unfold vp_in; decide) dX11_charges_10 ?_
      refine lv_topi (fun v8 e9 => ?_)
      have b10 : iv 0 5 v8 := by rw [e9]; exact iv_mono (o.a 54 (rfl : ro 396 = 54) _) (by decide +kernel) (by decide +kernel)
      refine lv_icmp_ge (tgt := 28) E.1 E.2.1 dX11_charges_11 (by decide) (fun c11 => ?_) (fun c11 => ?_)
      · skip
        refine lv_iload_n E.1 E.2.1 dX11_charges_28 rfl (lv_at hl 1 rfl) ?_
        exact RET G rfl rfl dX11_charges_29
      · skip
        have b12 : iv 0 4 y1 := lt_l (Int32.not_le.mp c11) b7 b10 (by decide)
        have b13 : iv 1 5 v8 := lt_r (Int32.not_le.mp c11) b7 b10 (by decide)
        refine lv_iload_n E.1 E.2.1 dX11_charges_14 rfl (lv_at hl 1 rfl) ?_
        refine lv_aload_n E.1 E.2.1 dX11_charges_15 rfl (lv_at hl 2 rfl) ?_
        refine lv_iload_n E.1 E.2.1 dX11_charges_16 rfl (lv_at hl 0 rfl) ?_
        refine t_vi E G hl (v_chargeOf l D K ad z o y1 (iv_mono b12 (by decide) (by decide))) 11 (rfl : ro 386 = 11) (by decide) rfl rfl 1 rfl mw_code_X11_chargeOf mw_ini_11 mw_ml_11_294 mw_inst_X11_chargeOf mw_sel_X11_chargeOf hd_X11_chargeOf ⟨Nat.le_trans (by decide) hfr, Nat.le_trans (by decide) hlo⟩ rfl rfl rfl (Nat.le_of_ble_eq_true rfl) dX11_charges_17 (fun r15 zz14 H locs hp16 G => ?_)
        have hz17 := hp16
        rw [hz17] at G
        refine lv_iadd E.1 E.2.1 dX11_charges_20 ?_
        refine lv_topi (fun v18 e19 => ?_)
        refine lv_istore_n (lv' := [(1, .int v18), (2, .int y1), (0, .ref (ad 386))]) E.1 E.2.1 dX11_charges_21 rfl hl (by decide) rfl (fun ls hl => ?_)
        obtain ⟨v20, e21⟩ : ∃ w : Int32, w = y1 + (1 : Int32) := ⟨_, rfl⟩
        refine lv_iinc (v := v20) (lv' := [(2, .int v20), (1, .int v18), (0, .ref (ad 386))]) E.1 E.2.1 dX11_charges_22 hl (k := 1) rfl (by rw [e21]; rfl) (by decide) rfl (fun ls hl => ?_)
        have b22 : iv 1 5 v20 := by rw [e21]; exact iv_add b12 (iv_lit (lo := 1) (hi := 1) 1 (by decide) (by decide)) (by decide) (by decide) (by decide) (by decide)
        have t23 : v20.toInt = y1.toInt + 1 := by rw [e21]; exact ti_addc 1 (by decide) b12 (by decide) (by decide)
        refine lv_goto (tgt := 4) E.1 E.2.1 dX11_charges_25 (by decide) ?_
        exact ih4 v20 v18 H locs ls G (iv_mono b22 (by decide) (by decide)) (by have := t23; have := m6; omega) (lv_sub hl [0, 1, 2] rfl)
  exact LOOP4 6 0 0 H locs ls G (iv_mono (iv_lit (lo := 0) (hi := 0) 0 (by decide) (by decide)) (by decide) (by decide)) (by have := (iv_lit (lo := 0) (hi := 0) 0 (by decide) (by decide)).1; omega) (lv_sub hl [0, 1, 2] rfl)
set_option maxHeartbeats 4000000 in
set_option maxRecDepth 100000 in
theorem v_spread (l : Launch) (D : va_G) (K : Nat → ClassId) (ad : Nat → Nat) (z : TS) (o : Ok z) (x1 : Int32) (x2 : Int32) : cI l yX11_spread cX11_spread 5 .int ({ frames := 1, cells := 0, slots := 0, locals := 21 }) D K ad z [.ref (ad 386), .int x1, .int x2] (fun r u => u = z) := by
  refine t_enterI (by decide) (Nat.le_of_ble_eq_true rfl) rfl rfl ?_
  intro p e s m args below meth c A R Q H locs ls E hfr hlo RET G hl
  have E : mE p s m meth c cX11_spread args 5 RX11 D K A := E
  have hl : lv_has ls 5 [(0, .ref (ad 386)), (1, .int x1), (2, .int x2)] := hl
  refine lv_iload_n E.1 E.2.1 dX11_spread_0 rfl (lv_at hl 1 rfl) ?_
  refine lv_istore_n (lv' := [(3, .int x1), (0, .ref (ad 386)), (1, .int x1), (2, .int x2)]) E.1 E.2.1 dX11_spread_1 rfl hl (by decide) rfl (fun ls hl => ?_)
  refine lv_iconst (v := 0) E.1 E.2.1 dX11_spread_2 (by decide) ?_
  refine lv_istore (lv' := [(4, .int 0), (3, .int x1), (0, .ref (ad 386)), (1, .int x1), (2, .int x2)]) E.1 E.2.1 dX11_spread_3 hl (by decide) rfl (fun ls hl => ?_)
  have LOOP5 : ∀ n : Nat, ∀ (y1 : Int32) (y2 : Int32) (H : Heap) (locs : List Loc) (ls : Array Slot), mG D A s H locs (wd K ad z) → iv 0 8 y1 → 8 < y1.toInt + (n : Int) → lv_has ls 5 [(4, .int y1), (3, .int y2), (0, .ref (ad 386)), (1, .int x1), (2, .int x2)] → W p l e R s m args below meth c H locs 0 0 Q (F0 m 5 ls []) := by
    intro n
    induction n with
    | zero =>
      intro y1 y2 H locs ls G b7 m6 hl
      exact absurd m6 (by have := b7.1; have := b7.2; omega)
    | succ n ih5 =>
      intro y1 y2 H locs ls G b7 m6 hl
      refine lv_iload E.1 E.2.1 dX11_spread_5 (lv_at hl 0 rfl) ?_
      refine lv_aload_n E.1 E.2.1 dX11_spread_7 rfl (lv_at hl 2 rfl) ?_
      refine t_get E G 11 20 (rfl : ro 386 = 11) (C := RX11) (T := TX11) (N := 37) rfl (by decide) (by decide) (by decide) mw_fl_11_39 (v := .ref (ad 396)) (fvl_o (n := 10) rfl) dX11_spread_8 ?_
      refine lv_iconst (v := 1) E.1 E.2.1 dX11_spread_11 (by decide) ?_
      refine t_iald E G 54 (rfl : ro 396 = 54) (by decide) (by decide) rfl (n := 127) rfl (by unfold vp_in; decide) dX11_spread_12 ?_
      refine lv_topi (fun v8 e9 => ?_)
      have b10 : iv 0 8 v8 := by rw [e9]; exact iv_mono (o.a 54 (rfl : ro 396 = 54) _) (by decide +kernel) (by decide +kernel)
      refine lv_icmp_ge (tgt := 44) E.1 E.2.1 dX11_spread_13 (by decide) (fun c11 => ?_) (fun c11 => ?_)
      · skip
        refine lv_iload_n E.1 E.2.1 dX11_spread_44 rfl (lv_at hl 1 rfl) ?_
        refine lv_iload_n E.1 E.2.1 dX11_spread_45 rfl (lv_at hl 4 rfl) ?_
        refine lv_iconst (v := (-1)) E.1 E.2.1 dX11_spread_46 (by decide) ?_
        refine lv_ixor E.1 E.2.1 dX11_spread_47 ?_
        refine lv_topi (fun v12 e13 => ?_)
        refine lv_iand E.1 E.2.1 dX11_spread_48 ?_
        refine lv_topi (fun v14 e15 => ?_)
        exact RET G rfl rfl dX11_spread_49
      · skip
        have b16 : iv 0 7 y1 := lt_l (Int32.not_le.mp c11) b7 b10 (by decide)
        have b17 : iv 1 8 v8 := lt_r (Int32.not_le.mp c11) b7 b10 (by decide)
        refine lv_iload_n E.1 E.2.1 dX11_spread_16 rfl (lv_at hl 3 rfl) ?_
        refine lv_iload E.1 E.2.1 dX11_spread_17 (lv_at hl 0 rfl) ?_
        refine t_si E G hl (v_isOf l D K ad z o x1 y1) 2 rfl mw_code_X11_isOf mw_ini_11 mw_ml_11_297 mw_stat_X11_isOf hd_X11_isOf ⟨Nat.le_trans (by decide) hfr, Nat.le_trans (by decide) hlo⟩ rfl rfl rfl (Nat.le_of_ble_eq_true rfl) dX11_spread_19 (fun r19 zz18 H locs hp20 G => ?_)
        obtain ⟨hz22, b21⟩ := hp20
        rw [hz22] at G
        refine lv_if_eq (tgt := 38) E.1 E.2.1 dX11_spread_22 (by decide) (fun c23 => ?_) (fun c23 => ?_)
        · skip
          have b24 : iv 0 0 r19 := iv_eq c23 (iv_lit (lo := 0) (hi := 0) 0 (by decide) (by decide))
          obtain ⟨v25, e26⟩ : ∃ w : Int32, w = y1 + (1 : Int32) := ⟨_, rfl⟩
          refine lv_iinc (v := v25) (lv' := [(4, .int v25), (3, .int y2), (0, .ref (ad 386)), (1, .int x1), (2, .int x2)]) E.1 E.2.1 dX11_spread_38 hl (k := 0) rfl (by rw [e26]; rfl) (by decide) rfl (fun ls hl => ?_)
          have b27 : iv 1 8 v25 := by rw [e26]; exact iv_add b16 (iv_lit (lo := 1) (hi := 1) 1 (by decide) (by decide)) (by decide) (by decide) (by decide) (by decide)
          have t28 : v25.toInt = y1.toInt + 1 := by rw [e26]; exact ti_addc 1 (by decide) b16 (by decide) (by decide)
          refine lv_goto (tgt := 5) E.1 E.2.1 dX11_spread_41 (by decide) ?_
          exact ih5 v25 y2 H locs ls G (iv_mono b27 (by decide) (by decide)) (by have := t28; have := m6; omega) (lv_sub hl [0, 1, 2, 3, 4] rfl)
        · skip
          have b29 : iv 1 1 r19 := ne_lo c23 b21 (by decide) (by decide)
          refine lv_iload_n E.1 E.2.1 dX11_spread_25 rfl (lv_at hl 1 rfl) ?_
          refine lv_aload_n E.1 E.2.1 dX11_spread_26 rfl (lv_at hl 2 rfl) ?_
          refine t_get E G 11 20 (rfl : ro 386 = 11) (C := RX11) (T := TX11) (N := 37) rfl (by decide) (by decide) (by decide) mw_fl_11_39 (v := .ref (ad 396)) (fvl_o (n := 10) rfl) dX11_spread_27 ?_
          refine lv_bipush (v := 88) E.1 E.2.1 dX11_spread_30 (by decide) ?_
          refine lv_iload E.1 E.2.1 dX11_spread_32 (lv_at hl 0 rfl) ?_
          refine lv_iadd E.1 E.2.1 dX11_spread_34 ?_
          refine lv_topi (fun v30 e31 => ?_)
          have b32 : iv 88 95 v30 := by rw [e31]; exact iv_add (iv_lit (lo := 88) (hi := 88) 88 (by decide) (by decide)) b16 (by decide) (by decide) (by decide) (by decide)
          have l33 : v30.toInt = 88 + 1 * y1.toInt := (show v30.toInt = 88 + y1.toInt by rw [e31]; exact ti_cadd 88 (by decide) b16 (by decide) (by decide)).trans (by omega)
          refine t_iald E G 54 (rfl : ro 396 = 54) (by decide) (by decide) rfl (n := 127) rfl (iv_vp b32 (by decide) (by decide)) dX11_spread_35 ?_
          refine lv_topi (fun v34 e35 => ?_)
          refine lv_ior E.1 E.2.1 dX11_spread_36 ?_
          refine lv_topi (fun v36 e37 => ?_)
          refine lv_istore_n (lv' := [(3, .int v36), (4, .int y1), (0, .ref (ad 386)), (1, .int x1), (2, .int x2)]) E.1 E.2.1 dX11_spread_37 rfl hl (by decide) rfl (fun ls hl => ?_)
          obtain ⟨v38, e39⟩ : ∃ w : Int32, w = y1 + (1 : Int32) := ⟨_, rfl⟩
          refine lv_iinc (v := v38) (lv' := [(4, .int v38), (3, .int v36), (0, .ref (ad 386)), (1, .int x1), (2, .int x2)]) E.1 E.2.1 dX11_spread_38 hl (k := 1) rfl (by rw [e39]; rfl) (by decide) rfl (fun ls hl => ?_)
          have b40 : iv 1 8 v38 := by rw [e39]; exact iv_add b16 (iv_lit (lo := 1) (hi := 1) 1 (by decide) (by decide)) (by decide) (by decide) (by decide) (by decide)
          have t41 : v38.toInt = y1.toInt + 1 := by rw [e39]; exact ti_addc 1 (by decide) b16 (by decide) (by decide)
          refine lv_goto (tgt := 5) E.1 E.2.1 dX11_spread_41 (by decide) ?_
          exact ih5 v38 v36 H locs ls G (iv_mono b40 (by decide) (by decide)) (by have := t41; have := m6; omega) (lv_sub hl [0, 1, 2, 3, 4] rfl)
  exact LOOP5 9 0 x1 H locs ls G (iv_mono (iv_lit (lo := 0) (hi := 0) 0 (by decide) (by decide)) (by decide) (by decide)) (by have := (iv_lit (lo := 0) (hi := 0) 0 (by decide) (by decide)).1; omega) (lv_sub hl [0, 1, 2, 3, 4] rfl)
set_option maxHeartbeats 4000000 in
set_option maxRecDepth 100000 in
theorem v_waysTold (l : Launch) (D : va_G) (K : Nat → ClassId) (ad : Nat → Nat) (z : TS) (o : Ok z) (x1 : Int32) : cI l yX11_waysTold cX11_waysTold 1 .int ({ frames := 0, cells := 0, slots := 0, locals := 0 }) D K ad z [.int x1] (fun r u => u = z) := by
  refine t_enterI (by decide) (Nat.le_of_ble_eq_true rfl) rfl rfl ?_
  intro p e s m args below meth c A R Q H locs ls E hfr hlo RET G hl
  have E : mE p s m meth c cX11_waysTold args 1 RX11 D K A := E
  have hl : lv_has ls 1 [(0, .int x1)] := hl
  refine lv_iload_n E.1 E.2.1 dX11_waysTold_0 rfl (lv_at hl 0 rfl) ?_
  refine lv_bipush (v := 99) E.1 E.2.1 dX11_waysTold_1 (by decide) ?_
  refine lv_icmp_ne (tgt := 11) E.1 E.2.1 dX11_waysTold_3 (by decide) (fun c1 => ?_) (fun c1 => ?_)
  · skip
    refine lv_iload_n E.1 E.2.1 dX11_waysTold_11 rfl (lv_at hl 0 rfl) ?_
    exact RET G rfl rfl dX11_waysTold_12
  · skip
    have b2 : iv 99 99 x1 := iv_eq c1 (iv_lit (lo := 99) (hi := 99) 99 (by decide) (by decide))
    refine lv_bipush (v := (-2)) E.1 E.2.1 dX11_waysTold_6 (by decide) ?_
    refine lv_goto (tgt := 12) E.1 E.2.1 dX11_waysTold_8 (by decide) ?_
    exact RET G rfl rfl dX11_waysTold_12
set_option maxHeartbeats 4000000 in
set_option maxRecDepth 100000 in
theorem v_begins (l : Launch) (D : va_G) (K : Nat → ClassId) (ad : Nat → Nat) (z : TS) (o : Ok z) : cV l yX11_begins cX11_begins 2 ({ frames := 0, cells := 0, slots := 0, locals := 0 }) D K ad z [.ref (ad 386)] (fun u => Ok u ∧ KM z u) := by
  refine t_enterV (by decide) (Nat.le_of_ble_eq_true rfl) rfl rfl ?_
  intro p e s m args below meth c A R Q H locs ls E hfr hlo RET G hl
  have E : mE p s m meth c cX11_begins args 2 RX11 D K A := E
  have hl : lv_has ls 2 [(0, .ref (ad 386))] := hl
  refine lv_aload_n E.1 E.2.1 dX11_begins_0 rfl (lv_at hl 0 rfl) ?_
  refine t_get E G 11 20 (rfl : ro 386 = 11) (C := RX11) (T := TX11) (N := 37) rfl (by decide) (by decide) (by decide) mw_fl_11_39 (v := .ref (ad 396)) (fvl_o (n := 10) rfl) dX11_begins_1 ?_
  refine lv_bipush (v := 10) E.1 E.2.1 dX11_begins_4 (by decide) ?_
  refine lv_iconst (v := 0) E.1 E.2.1 dX11_begins_6 (by decide) ?_
  refine t_iast E G 54 (rfl : ro 396 = 54) (by decide) (by decide) rfl (n := 127) rfl (by unfold vp_in; decide) dX11_begins_7 (fun H locs G => ?_)
  obtain ⟨zz1, G, oo2, kk3⟩ : ∃ u : TS, mG D A s H locs (wd K ad u) ∧ Ok u ∧ KM z u := ⟨_, G, ok_u o 54 (rfl : ro 396 = 54) (iv_mono (iv_lit (lo := 0) (hi := 0) 0 (by decide) (by decide)) (by decide +kernel) (by decide +kernel)) (by decide), KF.tr KF.rf (KF_r 54 (rfl : ro 396 = 54) (by decide))⟩
  refine lv_iconst (v := 0) E.1 E.2.1 dX11_begins_8 (by decide) ?_
  refine lv_istore_n (lv' := [(1, .int 0), (0, .ref (ad 386))]) E.1 E.2.1 dX11_begins_9 rfl hl (by decide) rfl (fun ls hl => ?_)
  have LOOP10 : ∀ n : Nat, ∀ (zz5 : TS) (y4 : Int32) (H : Heap) (locs : List Loc) (ls : Array Slot), mG D A s H locs (wd K ad zz5) → Ok zz5 → KM z zz5 → iv 0 6 y4 → 6 < y4.toInt + (n : Int) → lv_has ls 2 [(1, .int y4), (0, .ref (ad 386))] → W p l e R s m args below meth c H locs 0 0 Q (F0 m 10 ls []) := by
    intro n
    induction n with
    | zero =>
      intro zz5 y4 H locs ls G oo6 kk7 b9 m8 hl
      exact absurd m8 (by have := b9.1; have := b9.2; omega)
    | succ n ih10 =>
      intro zz5 y4 H locs ls G oo6 kk7 b9 m8 hl
      refine lv_iload_n E.1 E.2.1 dX11_begins_10 rfl (lv_at hl 0 rfl) ?_
      refine lv_bipush (v := 6) E.1 E.2.1 dX11_begins_11 (by decide) ?_
      refine lv_icmp_ge (tgt := 84) E.1 E.2.1 dX11_begins_13 (by decide) (fun c10 => ?_) (fun c10 => ?_)
      · skip
        have b11 : iv 6 6 y4 := le_r c10 (iv_lit (lo := 6) (hi := 6) 6 (by decide) (by decide)) b9 (by decide)
        refine lv_iconst (v := 0) E.1 E.2.1 dX11_begins_84 (by decide) ?_
        refine lv_istore_n (lv' := [(1, .int 0), (0, .ref (ad 386))]) E.1 E.2.1 dX11_begins_85 rfl hl (by decide) rfl (fun ls hl => ?_)
        have LOOP86 : ∀ n : Nat, ∀ (zz13 : TS) (y12 : Int32) (H : Heap) (locs : List Loc) (ls : Array Slot), mG D A s H locs (wd K ad zz13) → Ok zz13 → KM z zz13 → iv 0 5 y12 → 5 < y12.toInt + (n : Int) → lv_has ls 2 [(1, .int y12), (0, .ref (ad 386))] → W p l e R s m args below meth c H locs 0 0 Q (F0 m 86 ls []) := by
          intro n
          induction n with
          | zero =>
            intro zz13 y12 H locs ls G oo14 kk15 b17 m16 hl
            exact absurd m16 (by have := b17.1; have := b17.2; omega)
          | succ n ih86 =>
            intro zz13 y12 H locs ls G oo14 kk15 b17 m16 hl
            refine lv_iload_n E.1 E.2.1 dX11_begins_86 rfl (lv_at hl 0 rfl) ?_
            refine lv_iconst (v := 5) E.1 E.2.1 dX11_begins_87 (by decide) ?_
            refine lv_icmp_ge (tgt := 159) E.1 E.2.1 dX11_begins_88 (by decide) (fun c18 => ?_) (fun c18 => ?_)
            · skip
              have b19 : iv 5 5 y12 := le_r c18 (iv_lit (lo := 5) (hi := 5) 5 (by decide) (by decide)) b17 (by decide)
              exact RET G ⟨oo14, kk15⟩ dX11_begins_159
            · skip
              have b20 : iv 0 4 y12 := lt_l (Int32.not_le.mp c18) b17 (iv_lit (lo := 5) (hi := 5) 5 (by decide) (by decide)) (by decide)
              refine lv_aload_n E.1 E.2.1 dX11_begins_91 rfl (lv_at hl 1 rfl) ?_
              refine t_get E G 11 20 (rfl : ro 386 = 11) (C := RX11) (T := TX11) (N := 37) rfl (by decide) (by decide) (by decide) mw_fl_11_39 (v := .ref (ad 396)) (fvl_o (n := 10) rfl) dX11_begins_92 ?_
              refine lv_bipush (v := 29) E.1 E.2.1 dX11_begins_95 (by decide) ?_
              refine lv_iconst (v := 3) E.1 E.2.1 dX11_begins_97 (by decide) ?_
              refine lv_iload_n E.1 E.2.1 dX11_begins_98 rfl (lv_at hl 0 rfl) ?_
              refine lv_imul E.1 E.2.1 dX11_begins_99 ?_
              refine lv_topi (fun v21 e22 => ?_)
              have b23 : iv 0 12 v21 := by rw [e22]; exact iv_mulc' b20 3 (by decide) (by decide) (by decide) (by decide) (by decide) (by decide)
              have l24 : v21.toInt = 0 + 3 * y12.toInt := (show v21.toInt = 3 * y12.toInt by rw [e22]; exact ti_cmul 3 (by decide) (by decide) b20 (by decide) (by decide)).trans (by omega)
              refine lv_iadd E.1 E.2.1 dX11_begins_100 ?_
              refine lv_topi (fun v25 e26 => ?_)
              have b27 : iv 29 41 v25 := by rw [e26]; exact iv_add (iv_lit (lo := 29) (hi := 29) 29 (by decide) (by decide)) b23 (by decide) (by decide) (by decide) (by decide)
              have l28 : v25.toInt = 29 + 3 * y12.toInt := (show v25.toInt = 29 + v21.toInt by rw [e26]; exact ti_cadd 29 (by decide) b23 (by decide) (by decide)).trans (by omega)
              refine lv_aload_n E.1 E.2.1 dX11_begins_101 rfl (lv_at hl 1 rfl) ?_
              refine t_get E G 11 20 (rfl : ro 386 = 11) (C := RX11) (T := TX11) (N := 37) rfl (by decide) (by decide) (by decide) mw_fl_11_39 (v := .ref (ad 396)) (fvl_o (n := 10) rfl) dX11_begins_102 ?_
              refine lv_bipush (v := 78) E.1 E.2.1 dX11_begins_105 (by decide) ?_
              refine lv_iconst (v := 2) E.1 E.2.1 dX11_begins_107 (by decide) ?_
              refine lv_iload_n E.1 E.2.1 dX11_begins_108 rfl (lv_at hl 0 rfl) ?_
              refine lv_imul E.1 E.2.1 dX11_begins_109 ?_
              refine lv_topi (fun v29 e30 => ?_)
              have b31 : iv 0 8 v29 := by rw [e30]; exact iv_mulc' b20 2 (by decide) (by decide) (by decide) (by decide) (by decide) (by decide)
              have l32 : v29.toInt = 0 + 2 * y12.toInt := (show v29.toInt = 2 * y12.toInt by rw [e30]; exact ti_cmul 2 (by decide) (by decide) b20 (by decide) (by decide)).trans (by omega)
              refine lv_iadd E.1 E.2.1 dX11_begins_110 ?_
              refine lv_topi (fun v33 e34 => ?_)
              have b35 : iv 78 86 v33 := by rw [e34]; exact iv_add (iv_lit (lo := 78) (hi := 78) 78 (by decide) (by decide)) b31 (by decide) (by decide) (by decide) (by decide)
              have l36 : v33.toInt = 78 + 2 * y12.toInt := (show v33.toInt = 78 + v29.toInt by rw [e34]; exact ti_cadd 78 (by decide) b31 (by decide) (by decide)).trans (by omega)
              refine t_iald E G 54 (rfl : ro 396 = 54) (by decide) (by decide) rfl (n := 127) rfl (iv_vp b35 (by decide) (by decide)) dX11_begins_111 ?_
              refine lv_topi (fun v37 e38 => ?_)
              have b39 : iv 0 7 v37 := by rw [e38]; exact rd1 oo14 54 (rfl : ro 396 = 54) 78 2 0 4 b20 (l36.trans (by omega)) (by decide +kernel)
              refine t_iast E G 54 (rfl : ro 396 = 54) (by decide) (by decide) rfl (n := 127) rfl (iv_vp b27 (by decide) (by decide)) dX11_begins_112 (fun H locs G => ?_)
              obtain ⟨zz40, G, oo41, kk42⟩ : ∃ u : TS, mG D A s H locs (wd K ad u) ∧ Ok u ∧ KM z u := ⟨_, G, ok_u oo14 54 (rfl : ro 396 = 54) (wr1 29 3 0 4 b39 b20 (l28.trans (by omega)) (by decide +kernel)) (by decide), KF.tr kk15 (KF_r 54 (rfl : ro 396 = 54) (by decide))⟩
              refine lv_aload_n E.1 E.2.1 dX11_begins_113 rfl (lv_at hl 1 rfl) ?_
              refine t_get E G 11 20 (rfl : ro 386 = 11) (C := RX11) (T := TX11) (N := 37) rfl (by decide) (by decide) (by decide) mw_fl_11_39 (v := .ref (ad 396)) (fvl_o (n := 10) rfl) dX11_begins_114 ?_
              refine lv_bipush (v := 29) E.1 E.2.1 dX11_begins_117 (by decide) ?_
              refine lv_iconst (v := 3) E.1 E.2.1 dX11_begins_119 (by decide) ?_
              refine lv_iload_n E.1 E.2.1 dX11_begins_120 rfl (lv_at hl 0 rfl) ?_
              refine lv_imul E.1 E.2.1 dX11_begins_121 ?_
              refine lv_topi (fun v43 e44 => ?_)
              have b45 : iv 0 12 v43 := by rw [e44]; exact iv_mulc' b20 3 (by decide) (by decide) (by decide) (by decide) (by decide) (by decide)
              have l46 : v43.toInt = 0 + 3 * y12.toInt := (show v43.toInt = 3 * y12.toInt by rw [e44]; exact ti_cmul 3 (by decide) (by decide) b20 (by decide) (by decide)).trans (by omega)
              refine lv_iadd E.1 E.2.1 dX11_begins_122 ?_
              refine lv_topi (fun v47 e48 => ?_)
              have b49 : iv 29 41 v47 := by rw [e48]; exact iv_add (iv_lit (lo := 29) (hi := 29) 29 (by decide) (by decide)) b45 (by decide) (by decide) (by decide) (by decide)
              have l50 : v47.toInt = 29 + 3 * y12.toInt := (show v47.toInt = 29 + v43.toInt by rw [e48]; exact ti_cadd 29 (by decide) b45 (by decide) (by decide)).trans (by omega)
              refine lv_iconst (v := 1) E.1 E.2.1 dX11_begins_123 (by decide) ?_
              refine lv_iadd E.1 E.2.1 dX11_begins_124 ?_
              refine lv_topi (fun v51 e52 => ?_)
              have b53 : iv 30 42 v51 := by rw [e52]; exact iv_add b49 (iv_lit (lo := 1) (hi := 1) 1 (by decide) (by decide)) (by decide) (by decide) (by decide) (by decide)
              have l54 : v51.toInt = 30 + 3 * y12.toInt := (show v51.toInt = v47.toInt + 1 by rw [e52]; exact ti_addc 1 (by decide) b49 (by decide) (by decide)).trans (by omega)
              refine lv_aload_n E.1 E.2.1 dX11_begins_125 rfl (lv_at hl 1 rfl) ?_
              refine t_get E G 11 20 (rfl : ro 386 = 11) (C := RX11) (T := TX11) (N := 37) rfl (by decide) (by decide) (by decide) mw_fl_11_39 (v := .ref (ad 396)) (fvl_o (n := 10) rfl) dX11_begins_126 ?_
              refine lv_bipush (v := 78) E.1 E.2.1 dX11_begins_129 (by decide) ?_
              refine lv_iconst (v := 2) E.1 E.2.1 dX11_begins_131 (by decide) ?_
              refine lv_iload_n E.1 E.2.1 dX11_begins_132 rfl (lv_at hl 0 rfl) ?_
              refine lv_imul E.1 E.2.1 dX11_begins_133 ?_
              refine lv_topi (fun v55 e56 => ?_)
              have b57 : iv 0 8 v55 := by rw [e56]; exact iv_mulc' b20 2 (by decide) (by decide) (by decide) (by decide) (by decide) (by decide)
              have l58 : v55.toInt = 0 + 2 * y12.toInt := (show v55.toInt = 2 * y12.toInt by rw [e56]; exact ti_cmul 2 (by decide) (by decide) b20 (by decide) (by decide)).trans (by omega)
              refine lv_iadd E.1 E.2.1 dX11_begins_134 ?_
              refine lv_topi (fun v59 e60 => ?_)
              have b61 : iv 78 86 v59 := by rw [e60]; exact iv_add (iv_lit (lo := 78) (hi := 78) 78 (by decide) (by decide)) b57 (by decide) (by decide) (by decide) (by decide)
              have l62 : v59.toInt = 78 + 2 * y12.toInt := (show v59.toInt = 78 + v55.toInt by rw [e60]; exact ti_cadd 78 (by decide) b57 (by decide) (by decide)).trans (by omega)
              refine lv_iconst (v := 1) E.1 E.2.1 dX11_begins_135 (by decide) ?_
              refine lv_iadd E.1 E.2.1 dX11_begins_136 ?_
              refine lv_topi (fun v63 e64 => ?_)
              have b65 : iv 79 87 v63 := by rw [e64]; exact iv_add b61 (iv_lit (lo := 1) (hi := 1) 1 (by decide) (by decide)) (by decide) (by decide) (by decide) (by decide)
              have l66 : v63.toInt = 79 + 2 * y12.toInt := (show v63.toInt = v59.toInt + 1 by rw [e64]; exact ti_addc 1 (by decide) b61 (by decide) (by decide)).trans (by omega)
              refine t_iald E G 54 (rfl : ro 396 = 54) (by decide) (by decide) rfl (n := 127) rfl (iv_vp b65 (by decide) (by decide)) dX11_begins_137 ?_
              refine lv_topi (fun v67 e68 => ?_)
              refine t_iast E G 54 (rfl : ro 396 = 54) (by decide) (by decide) rfl (n := 127) rfl (iv_vp b53 (by decide) (by decide)) dX11_begins_138 (fun H locs G => ?_)
              obtain ⟨zz69, G, oo70, kk71⟩ : ∃ u : TS, mG D A s H locs (wd K ad u) ∧ Ok u ∧ KM z u := ⟨_, G, ok_u oo41 54 (rfl : ro 396 = 54) (wr1 30 3 0 4 (iv_full v67) b20 (l54.trans (by omega)) (by decide +kernel)) (by decide), KF.tr kk42 (KF_r 54 (rfl : ro 396 = 54) (by decide))⟩
              refine lv_aload_n E.1 E.2.1 dX11_begins_139 rfl (lv_at hl 1 rfl) ?_
              refine t_get E G 11 20 (rfl : ro 386 = 11) (C := RX11) (T := TX11) (N := 37) rfl (by decide) (by decide) (by decide) mw_fl_11_39 (v := .ref (ad 396)) (fvl_o (n := 10) rfl) dX11_begins_140 ?_
              refine lv_bipush (v := 29) E.1 E.2.1 dX11_begins_143 (by decide) ?_
              refine lv_iconst (v := 3) E.1 E.2.1 dX11_begins_145 (by decide) ?_
              refine lv_iload_n E.1 E.2.1 dX11_begins_146 rfl (lv_at hl 0 rfl) ?_
              refine lv_imul E.1 E.2.1 dX11_begins_147 ?_
              refine lv_topi (fun v72 e73 => ?_)
              have b74 : iv 0 12 v72 := by rw [e73]; exact iv_mulc' b20 3 (by decide) (by decide) (by decide) (by decide) (by decide) (by decide)
              have l75 : v72.toInt = 0 + 3 * y12.toInt := (show v72.toInt = 3 * y12.toInt by rw [e73]; exact ti_cmul 3 (by decide) (by decide) b20 (by decide) (by decide)).trans (by omega)
              refine lv_iadd E.1 E.2.1 dX11_begins_148 ?_
              refine lv_topi (fun v76 e77 => ?_)
              have b78 : iv 29 41 v76 := by rw [e77]; exact iv_add (iv_lit (lo := 29) (hi := 29) 29 (by decide) (by decide)) b74 (by decide) (by decide) (by decide) (by decide)
              have l79 : v76.toInt = 29 + 3 * y12.toInt := (show v76.toInt = 29 + v72.toInt by rw [e77]; exact ti_cadd 29 (by decide) b74 (by decide) (by decide)).trans (by omega)
              refine lv_iconst (v := 2) E.1 E.2.1 dX11_begins_149 (by decide) ?_
              refine lv_iadd E.1 E.2.1 dX11_begins_150 ?_
              refine lv_topi (fun v80 e81 => ?_)
              have b82 : iv 31 43 v80 := by rw [e81]; exact iv_add b78 (iv_lit (lo := 2) (hi := 2) 2 (by decide) (by decide)) (by decide) (by decide) (by decide) (by decide)
              have l83 : v80.toInt = 31 + 3 * y12.toInt := (show v80.toInt = v76.toInt + 2 by rw [e81]; exact ti_addc 2 (by decide) b78 (by decide) (by decide)).trans (by omega)
              refine lv_iconst (v := 0) E.1 E.2.1 dX11_begins_151 (by decide) ?_
              refine t_iast E G 54 (rfl : ro 396 = 54) (by decide) (by decide) rfl (n := 127) rfl (iv_vp b82 (by decide) (by decide)) dX11_begins_152 (fun H locs G => ?_)
              obtain ⟨zz84, G, oo85, kk86⟩ : ∃ u : TS, mG D A s H locs (wd K ad u) ∧ Ok u ∧ KM z u := ⟨_, G, ok_u oo70 54 (rfl : ro 396 = 54) (wr1 31 3 0 4 (iv_lit (lo := 0) (hi := 0) 0 (by decide) (by decide)) b20 (l83.trans (by omega)) (by decide +kernel)) (by decide), KF.tr kk71 (KF_r 54 (rfl : ro 396 = 54) (by decide))⟩
              obtain ⟨v87, e88⟩ : ∃ w : Int32, w = y12 + (1 : Int32) := ⟨_, rfl⟩
              refine lv_iinc (v := v87) (lv' := [(1, .int v87), (0, .ref (ad 386))]) E.1 E.2.1 dX11_begins_153 hl (k := 0) rfl (by rw [e88]; rfl) (by decide) rfl (fun ls hl => ?_)
              have b89 : iv 1 5 v87 := by rw [e88]; exact iv_add b20 (iv_lit (lo := 1) (hi := 1) 1 (by decide) (by decide)) (by decide) (by decide) (by decide) (by decide)
              have t90 : v87.toInt = y12.toInt + 1 := by rw [e88]; exact ti_addc 1 (by decide) b20 (by decide) (by decide)
              refine lv_goto (tgt := 86) E.1 E.2.1 dX11_begins_156 (by decide) ?_
              exact ih86 zz84 v87 H locs ls G oo85 kk86 (iv_mono b89 (by decide) (by decide)) (by have := t90; have := m16; omega) (lv_sub hl [0, 1] rfl)
        exact LOOP86 6 zz5 0 H locs ls G oo6 kk7 (iv_mono (iv_lit (lo := 0) (hi := 0) 0 (by decide) (by decide)) (by decide) (by decide)) (by have := (iv_lit (lo := 0) (hi := 0) 0 (by decide) (by decide)).1; omega) (lv_sub hl [0, 1] rfl)
      · skip
        have b91 : iv 0 5 y4 := lt_l (Int32.not_le.mp c10) b9 (iv_lit (lo := 6) (hi := 6) 6 (by decide) (by decide)) (by decide)
        refine lv_aload_n E.1 E.2.1 dX11_begins_16 rfl (lv_at hl 1 rfl) ?_
        refine t_get E G 11 20 (rfl : ro 386 = 11) (C := RX11) (T := TX11) (N := 37) rfl (by decide) (by decide) (by decide) mw_fl_11_39 (v := .ref (ad 396)) (fvl_o (n := 10) rfl) dX11_begins_17 ?_
        refine lv_bipush (v := 11) E.1 E.2.1 dX11_begins_20 (by decide) ?_
        refine lv_iconst (v := 3) E.1 E.2.1 dX11_begins_22 (by decide) ?_
        refine lv_iload_n E.1 E.2.1 dX11_begins_23 rfl (lv_at hl 0 rfl) ?_
        refine lv_imul E.1 E.2.1 dX11_begins_24 ?_
        refine lv_topi (fun v92 e93 => ?_)
        have b94 : iv 0 15 v92 := by rw [e93]; exact iv_mulc' b91 3 (by decide) (by decide) (by decide) (by decide) (by decide) (by decide)
        have l95 : v92.toInt = 0 + 3 * y4.toInt := (show v92.toInt = 3 * y4.toInt by rw [e93]; exact ti_cmul 3 (by decide) (by decide) b91 (by decide) (by decide)).trans (by omega)
        refine lv_iadd E.1 E.2.1 dX11_begins_25 ?_
        refine lv_topi (fun v96 e97 => ?_)
        have b98 : iv 11 26 v96 := by rw [e97]; exact iv_add (iv_lit (lo := 11) (hi := 11) 11 (by decide) (by decide)) b94 (by decide) (by decide) (by decide) (by decide)
        have l99 : v96.toInt = 11 + 3 * y4.toInt := (show v96.toInt = 11 + v92.toInt by rw [e97]; exact ti_cadd 11 (by decide) b94 (by decide) (by decide)).trans (by omega)
        refine lv_aload_n E.1 E.2.1 dX11_begins_26 rfl (lv_at hl 1 rfl) ?_
        refine t_get E G 11 20 (rfl : ro 386 = 11) (C := RX11) (T := TX11) (N := 37) rfl (by decide) (by decide) (by decide) mw_fl_11_39 (v := .ref (ad 396)) (fvl_o (n := 10) rfl) dX11_begins_27 ?_
        refine lv_bipush (v := 66) E.1 E.2.1 dX11_begins_30 (by decide) ?_
        refine lv_iconst (v := 2) E.1 E.2.1 dX11_begins_32 (by decide) ?_
        refine lv_iload_n E.1 E.2.1 dX11_begins_33 rfl (lv_at hl 0 rfl) ?_
        refine lv_imul E.1 E.2.1 dX11_begins_34 ?_
        refine lv_topi (fun v100 e101 => ?_)
        have b102 : iv 0 10 v100 := by rw [e101]; exact iv_mulc' b91 2 (by decide) (by decide) (by decide) (by decide) (by decide) (by decide)
        have l103 : v100.toInt = 0 + 2 * y4.toInt := (show v100.toInt = 2 * y4.toInt by rw [e101]; exact ti_cmul 2 (by decide) (by decide) b91 (by decide) (by decide)).trans (by omega)
        refine lv_iadd E.1 E.2.1 dX11_begins_35 ?_
        refine lv_topi (fun v104 e105 => ?_)
        have b106 : iv 66 76 v104 := by rw [e105]; exact iv_add (iv_lit (lo := 66) (hi := 66) 66 (by decide) (by decide)) b102 (by decide) (by decide) (by decide) (by decide)
        have l107 : v104.toInt = 66 + 2 * y4.toInt := (show v104.toInt = 66 + v100.toInt by rw [e105]; exact ti_cadd 66 (by decide) b102 (by decide) (by decide)).trans (by omega)
        refine t_iald E G 54 (rfl : ro 396 = 54) (by decide) (by decide) rfl (n := 127) rfl (iv_vp b106 (by decide) (by decide)) dX11_begins_36 ?_
        refine lv_topi (fun v108 e109 => ?_)
        refine t_iast E G 54 (rfl : ro 396 = 54) (by decide) (by decide) rfl (n := 127) rfl (iv_vp b98 (by decide) (by decide)) dX11_begins_37 (fun H locs G => ?_)
        obtain ⟨zz110, G, oo111, kk112⟩ : ∃ u : TS, mG D A s H locs (wd K ad u) ∧ Ok u ∧ KM z u := ⟨_, G, ok_u oo6 54 (rfl : ro 396 = 54) (wr1 11 3 0 5 (iv_full v108) b91 (l99.trans (by omega)) (by decide +kernel)) (by decide), KF.tr kk7 (KF_r 54 (rfl : ro 396 = 54) (by decide))⟩
        refine lv_aload_n E.1 E.2.1 dX11_begins_38 rfl (lv_at hl 1 rfl) ?_
        refine t_get E G 11 20 (rfl : ro 386 = 11) (C := RX11) (T := TX11) (N := 37) rfl (by decide) (by decide) (by decide) mw_fl_11_39 (v := .ref (ad 396)) (fvl_o (n := 10) rfl) dX11_begins_39 ?_
        refine lv_bipush (v := 11) E.1 E.2.1 dX11_begins_42 (by decide) ?_
        refine lv_iconst (v := 3) E.1 E.2.1 dX11_begins_44 (by decide) ?_
        refine lv_iload_n E.1 E.2.1 dX11_begins_45 rfl (lv_at hl 0 rfl) ?_
        refine lv_imul E.1 E.2.1 dX11_begins_46 ?_
        refine lv_topi (fun v113 e114 => ?_)
        have b115 : iv 0 15 v113 := by rw [e114]; exact iv_mulc' b91 3 (by decide) (by decide) (by decide) (by decide) (by decide) (by decide)
        have l116 : v113.toInt = 0 + 3 * y4.toInt := (show v113.toInt = 3 * y4.toInt by rw [e114]; exact ti_cmul 3 (by decide) (by decide) b91 (by decide) (by decide)).trans (by omega)
        refine lv_iadd E.1 E.2.1 dX11_begins_47 ?_
        refine lv_topi (fun v117 e118 => ?_)
        have b119 : iv 11 26 v117 := by rw [e118]; exact iv_add (iv_lit (lo := 11) (hi := 11) 11 (by decide) (by decide)) b115 (by decide) (by decide) (by decide) (by decide)
        have l120 : v117.toInt = 11 + 3 * y4.toInt := (show v117.toInt = 11 + v113.toInt by rw [e118]; exact ti_cadd 11 (by decide) b115 (by decide) (by decide)).trans (by omega)
        refine lv_iconst (v := 1) E.1 E.2.1 dX11_begins_48 (by decide) ?_
        refine lv_iadd E.1 E.2.1 dX11_begins_49 ?_
        refine lv_topi (fun v121 e122 => ?_)
        have b123 : iv 12 27 v121 := by rw [e122]; exact iv_add b119 (iv_lit (lo := 1) (hi := 1) 1 (by decide) (by decide)) (by decide) (by decide) (by decide) (by decide)
        have l124 : v121.toInt = 12 + 3 * y4.toInt := (show v121.toInt = v117.toInt + 1 by rw [e122]; exact ti_addc 1 (by decide) b119 (by decide) (by decide)).trans (by omega)
        refine lv_aload_n E.1 E.2.1 dX11_begins_50 rfl (lv_at hl 1 rfl) ?_
        refine t_get E G 11 20 (rfl : ro 386 = 11) (C := RX11) (T := TX11) (N := 37) rfl (by decide) (by decide) (by decide) mw_fl_11_39 (v := .ref (ad 396)) (fvl_o (n := 10) rfl) dX11_begins_51 ?_
        refine lv_bipush (v := 66) E.1 E.2.1 dX11_begins_54 (by decide) ?_
        refine lv_iconst (v := 2) E.1 E.2.1 dX11_begins_56 (by decide) ?_
        refine lv_iload_n E.1 E.2.1 dX11_begins_57 rfl (lv_at hl 0 rfl) ?_
        refine lv_imul E.1 E.2.1 dX11_begins_58 ?_
        refine lv_topi (fun v125 e126 => ?_)
        have b127 : iv 0 10 v125 := by rw [e126]; exact iv_mulc' b91 2 (by decide) (by decide) (by decide) (by decide) (by decide) (by decide)
        have l128 : v125.toInt = 0 + 2 * y4.toInt := (show v125.toInt = 2 * y4.toInt by rw [e126]; exact ti_cmul 2 (by decide) (by decide) b91 (by decide) (by decide)).trans (by omega)
        refine lv_iadd E.1 E.2.1 dX11_begins_59 ?_
        refine lv_topi (fun v129 e130 => ?_)
        have b131 : iv 66 76 v129 := by rw [e130]; exact iv_add (iv_lit (lo := 66) (hi := 66) 66 (by decide) (by decide)) b127 (by decide) (by decide) (by decide) (by decide)
        have l132 : v129.toInt = 66 + 2 * y4.toInt := (show v129.toInt = 66 + v125.toInt by rw [e130]; exact ti_cadd 66 (by decide) b127 (by decide) (by decide)).trans (by omega)
        refine lv_iconst (v := 1) E.1 E.2.1 dX11_begins_60 (by decide) ?_
        refine lv_iadd E.1 E.2.1 dX11_begins_61 ?_
        refine lv_topi (fun v133 e134 => ?_)
        have b135 : iv 67 77 v133 := by rw [e134]; exact iv_add b131 (iv_lit (lo := 1) (hi := 1) 1 (by decide) (by decide)) (by decide) (by decide) (by decide) (by decide)
        have l136 : v133.toInt = 67 + 2 * y4.toInt := (show v133.toInt = v129.toInt + 1 by rw [e134]; exact ti_addc 1 (by decide) b131 (by decide) (by decide)).trans (by omega)
        refine t_iald E G 54 (rfl : ro 396 = 54) (by decide) (by decide) rfl (n := 127) rfl (iv_vp b135 (by decide) (by decide)) dX11_begins_62 ?_
        refine lv_topi (fun v137 e138 => ?_)
        refine t_iast E G 54 (rfl : ro 396 = 54) (by decide) (by decide) rfl (n := 127) rfl (iv_vp b123 (by decide) (by decide)) dX11_begins_63 (fun H locs G => ?_)
        obtain ⟨zz139, G, oo140, kk141⟩ : ∃ u : TS, mG D A s H locs (wd K ad u) ∧ Ok u ∧ KM z u := ⟨_, G, ok_u oo111 54 (rfl : ro 396 = 54) (wr1 12 3 0 5 (iv_full v137) b91 (l124.trans (by omega)) (by decide +kernel)) (by decide), KF.tr kk112 (KF_r 54 (rfl : ro 396 = 54) (by decide))⟩
        refine lv_aload_n E.1 E.2.1 dX11_begins_64 rfl (lv_at hl 1 rfl) ?_
        refine t_get E G 11 20 (rfl : ro 386 = 11) (C := RX11) (T := TX11) (N := 37) rfl (by decide) (by decide) (by decide) mw_fl_11_39 (v := .ref (ad 396)) (fvl_o (n := 10) rfl) dX11_begins_65 ?_
        refine lv_bipush (v := 11) E.1 E.2.1 dX11_begins_68 (by decide) ?_
        refine lv_iconst (v := 3) E.1 E.2.1 dX11_begins_70 (by decide) ?_
        refine lv_iload_n E.1 E.2.1 dX11_begins_71 rfl (lv_at hl 0 rfl) ?_
        refine lv_imul E.1 E.2.1 dX11_begins_72 ?_
        refine lv_topi (fun v142 e143 => ?_)
        have b144 : iv 0 15 v142 := by rw [e143]; exact iv_mulc' b91 3 (by decide) (by decide) (by decide) (by decide) (by decide) (by decide)
        have l145 : v142.toInt = 0 + 3 * y4.toInt := (show v142.toInt = 3 * y4.toInt by rw [e143]; exact ti_cmul 3 (by decide) (by decide) b91 (by decide) (by decide)).trans (by omega)
        refine lv_iadd E.1 E.2.1 dX11_begins_73 ?_
        refine lv_topi (fun v146 e147 => ?_)
        have b148 : iv 11 26 v146 := by rw [e147]; exact iv_add (iv_lit (lo := 11) (hi := 11) 11 (by decide) (by decide)) b144 (by decide) (by decide) (by decide) (by decide)
        have l149 : v146.toInt = 11 + 3 * y4.toInt := (show v146.toInt = 11 + v142.toInt by rw [e147]; exact ti_cadd 11 (by decide) b144 (by decide) (by decide)).trans (by omega)
        refine lv_iconst (v := 2) E.1 E.2.1 dX11_begins_74 (by decide) ?_
        refine lv_iadd E.1 E.2.1 dX11_begins_75 ?_
        refine lv_topi (fun v150 e151 => ?_)
        have b152 : iv 13 28 v150 := by rw [e151]; exact iv_add b148 (iv_lit (lo := 2) (hi := 2) 2 (by decide) (by decide)) (by decide) (by decide) (by decide) (by decide)
        have l153 : v150.toInt = 13 + 3 * y4.toInt := (show v150.toInt = v146.toInt + 2 by rw [e151]; exact ti_addc 2 (by decide) b148 (by decide) (by decide)).trans (by omega)
        refine lv_iconst (v := 1) E.1 E.2.1 dX11_begins_76 (by decide) ?_
        refine t_iast E G 54 (rfl : ro 396 = 54) (by decide) (by decide) rfl (n := 127) rfl (iv_vp b152 (by decide) (by decide)) dX11_begins_77 (fun H locs G => ?_)
        obtain ⟨zz154, G, oo155, kk156⟩ : ∃ u : TS, mG D A s H locs (wd K ad u) ∧ Ok u ∧ KM z u := ⟨_, G, ok_u oo140 54 (rfl : ro 396 = 54) (wr1 13 3 0 5 (iv_lit (lo := 1) (hi := 1) 1 (by decide) (by decide)) b91 (l153.trans (by omega)) (by decide +kernel)) (by decide), KF.tr kk141 (KF_r 54 (rfl : ro 396 = 54) (by decide))⟩
        obtain ⟨v157, e158⟩ : ∃ w : Int32, w = y4 + (1 : Int32) := ⟨_, rfl⟩
        refine lv_iinc (v := v157) (lv' := [(1, .int v157), (0, .ref (ad 386))]) E.1 E.2.1 dX11_begins_78 hl (k := 0) rfl (by rw [e158]; rfl) (by decide) rfl (fun ls hl => ?_)
        have b159 : iv 1 6 v157 := by rw [e158]; exact iv_add b91 (iv_lit (lo := 1) (hi := 1) 1 (by decide) (by decide)) (by decide) (by decide) (by decide) (by decide)
        have t160 : v157.toInt = y4.toInt + 1 := by rw [e158]; exact ti_addc 1 (by decide) b91 (by decide) (by decide)
        refine lv_goto (tgt := 10) E.1 E.2.1 dX11_begins_81 (by decide) ?_
        exact ih10 zz154 v157 H locs ls G oo155 kk156 (iv_mono b159 (by decide) (by decide)) (by have := t160; have := m8; omega) (lv_sub hl [0, 1] rfl)
  exact LOOP10 7 zz1 0 H locs ls G oo2 kk3 (iv_mono (iv_lit (lo := 0) (hi := 0) 0 (by decide) (by decide)) (by decide) (by decide)) (by have := (iv_lit (lo := 0) (hi := 0) 0 (by decide) (by decide)).1; omega) (lv_sub hl [0, 1] rfl)
set_option maxHeartbeats 4000000 in
set_option maxRecDepth 100000 in
theorem v_wouldHave (l : Launch) (D : va_G) (K : Nat → ClassId) (ad : Nat → Nat) (z : TS) (o : Ok z) (x1 : Int32) (bx1 : iv 0 5 x1) (x2 : Int32) (bx2 : iv 0 4 x2) : cI l yX11_wouldHave cX11_wouldHave 3 .boolean ({ frames := 1, cells := 0, slots := 0, locals := 21 }) D K ad z [.ref (ad 386), .int x1, .int x2] (fun r u => u = z ∧ iv 0 1 r) := by
  refine t_enterI (by decide) (Nat.le_of_ble_eq_true rfl) rfl rfl ?_
  intro p e s m args below meth c A R Q H locs ls E hfr hlo RET G hl
  have E : mE p s m meth c cX11_wouldHave args 3 RX11 D K A := E
  have hl : lv_has ls 3 [(0, .ref (ad 386)), (1, .int x1), (2, .int x2)] := hl
  refine lv_aload_n E.1 E.2.1 dX11_wouldHave_0 rfl (lv_at hl 0 rfl) ?_
  refine lv_iload_n E.1 E.2.1 dX11_wouldHave_1 rfl (lv_at hl 1 rfl) ?_
  refine t_vi E G hl (v_kindOf l D K ad z o x1 (iv_mono bx1 (by decide) (by decide))) 11 (rfl : ro 386 = 11) (by decide) rfl rfl 1 rfl mw_code_X11_kindOf mw_ini_11 mw_ml_11_314 mw_inst_X11_kindOf mw_sel_X11_kindOf hd_X11_kindOf ⟨Nat.le_trans (by decide) hfr, Nat.le_trans (by decide) hlo⟩ rfl rfl rfl (Nat.le_of_ble_eq_true rfl) dX11_wouldHave_2 (fun r2 zz1 H locs hp3 G => ?_)
  have hz4 := hp3
  rw [hz4] at G
  refine lv_aload_n E.1 E.2.1 dX11_wouldHave_5 rfl (lv_at hl 0 rfl) ?_
  refine t_get E G 11 20 (rfl : ro 386 = 11) (C := RX11) (T := TX11) (N := 37) rfl (by decide) (by decide) (by decide) mw_fl_11_39 (v := .ref (ad 396)) (fvl_o (n := 10) rfl) dX11_wouldHave_6 ?_
  refine lv_bipush (v := 61) E.1 E.2.1 dX11_wouldHave_9 (by decide) ?_
  refine lv_iload_n E.1 E.2.1 dX11_wouldHave_11 rfl (lv_at hl 2 rfl) ?_
  refine lv_iadd E.1 E.2.1 dX11_wouldHave_12 ?_
  refine lv_topi (fun v5 e6 => ?_)
  have b7 : iv 61 65 v5 := by rw [e6]; exact iv_add (iv_lit (lo := 61) (hi := 61) 61 (by decide) (by decide)) bx2 (by decide) (by decide) (by decide) (by decide)
  have l8 : v5.toInt = 61 + 1 * x2.toInt := (show v5.toInt = 61 + x2.toInt by rw [e6]; exact ti_cadd 61 (by decide) bx2 (by decide) (by decide)).trans (by omega)
  refine t_iald E G 54 (rfl : ro 396 = 54) (by decide) (by decide) rfl (n := 127) rfl (iv_vp b7 (by decide) (by decide)) dX11_wouldHave_13 ?_
  refine lv_topi (fun v9 e10 => ?_)
  refine lv_icmp_ne (tgt := 38) E.1 E.2.1 dX11_wouldHave_14 (by decide) (fun c11 => ?_) (fun c11 => ?_)
  · skip
    refine lv_iconst (v := 0) E.1 E.2.1 dX11_wouldHave_38 (by decide) ?_
    exact RET G ⟨rfl, (iv_mono (iv_lit (lo := 0) (hi := 0) 0 (by decide) (by decide)) (by decide) (by decide))⟩ (by decide) dX11_wouldHave_39
  · skip
    refine lv_aload_n E.1 E.2.1 dX11_wouldHave_17 rfl (lv_at hl 0 rfl) ?_
    refine t_get E G 11 20 (rfl : ro 386 = 11) (C := RX11) (T := TX11) (N := 37) rfl (by decide) (by decide) (by decide) mw_fl_11_39 (v := .ref (ad 396)) (fvl_o (n := 10) rfl) dX11_wouldHave_18 ?_
    refine lv_bipush (v := 44) E.1 E.2.1 dX11_wouldHave_21 (by decide) ?_
    refine lv_iload_n E.1 E.2.1 dX11_wouldHave_23 rfl (lv_at hl 1 rfl) ?_
    refine lv_iadd E.1 E.2.1 dX11_wouldHave_24 ?_
    refine lv_topi (fun v12 e13 => ?_)
    have b14 : iv 44 49 v12 := by rw [e13]; exact iv_add (iv_lit (lo := 44) (hi := 44) 44 (by decide) (by decide)) bx1 (by decide) (by decide) (by decide) (by decide)
    have l15 : v12.toInt = 44 + 1 * x1.toInt := (show v12.toInt = 44 + x1.toInt by rw [e13]; exact ti_cadd 44 (by decide) bx1 (by decide) (by decide)).trans (by omega)
    refine t_iald E G 54 (rfl : ro 396 = 54) (by decide) (by decide) rfl (n := 127) rfl (iv_vp b14 (by decide) (by decide)) dX11_wouldHave_25 ?_
    refine lv_topi (fun v16 e17 => ?_)
    refine lv_aload_n E.1 E.2.1 dX11_wouldHave_26 rfl (lv_at hl 0 rfl) ?_
    refine lv_iload_n E.1 E.2.1 dX11_wouldHave_27 rfl (lv_at hl 2 rfl) ?_
    refine t_vi E G hl (v_waryOf l D K ad z o x2 (iv_mono bx2 (by decide) (by decide))) 11 (rfl : ro 386 = 11) (by decide) rfl rfl 1 rfl mw_code_X11_waryOf mw_ini_11 mw_ml_11_320 mw_inst_X11_waryOf mw_sel_X11_waryOf hd_X11_waryOf ⟨Nat.le_trans (by decide) hfr, Nat.le_trans (by decide) hlo⟩ rfl rfl rfl (Nat.le_of_ble_eq_true rfl) dX11_wouldHave_28 (fun r19 zz18 H locs hp20 G => ?_)
    have hz21 := hp20
    rw [hz21] at G
    refine lv_icmp_le (tgt := 38) E.1 E.2.1 dX11_wouldHave_31 (by decide) (fun c22 => ?_) (fun c22 => ?_)
    · skip
      refine lv_iconst (v := 0) E.1 E.2.1 dX11_wouldHave_38 (by decide) ?_
      exact RET G ⟨rfl, (iv_mono (iv_lit (lo := 0) (hi := 0) 0 (by decide) (by decide)) (by decide) (by decide))⟩ (by decide) dX11_wouldHave_39
    · skip
      have b23 : iv (-2147483648) 2147483646 r19 := lt_l (Int32.not_le.mp c22) (iv_full r19) (iv_full v16) (by decide)
      have b24 : iv (-2147483647) 2147483647 v16 := lt_r (Int32.not_le.mp c22) (iv_full r19) (iv_full v16) (by decide)
      refine lv_iconst (v := 1) E.1 E.2.1 dX11_wouldHave_34 (by decide) ?_
      refine lv_goto (tgt := 39) E.1 E.2.1 dX11_wouldHave_35 (by decide) ?_
      exact RET G ⟨rfl, (iv_mono (iv_lit (lo := 1) (hi := 1) 1 (by decide) (by decide)) (by decide) (by decide))⟩ (by decide) dX11_wouldHave_39
