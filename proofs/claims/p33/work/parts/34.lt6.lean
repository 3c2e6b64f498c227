theorem mw_code_X10_goDrawn : (Cond.code yX10_goDrawn cX10_goDrawn 7 (some .long) : Cond) ∈ cw := cw_of (List.mem_append_right _ (List.mem_append_right _ (List.mem_append_right _ (List.mem_append_right _ (List.mem_append_left _ (List.mem_of_getElem? (i := 198) rfl)))))) (by decide +kernel)
theorem mw_code_X10_goTillHad : (Cond.code yX10_goTillHad cX10_goTillHad 4 (some .int) : Cond) ∈ cw := cw_of (List.mem_append_right _ (List.mem_append_right _ (List.mem_append_right _ (List.mem_append_right _ (List.mem_append_left _ (List.mem_of_getElem? (i := 178) rfl)))))) (by decide +kernel)
theorem mw_code_X10_markSteps : (Cond.code yX10_markSteps cX10_markSteps 4 none : Cond) ∈ cw := cw_of (List.mem_append_right _ (List.mem_append_right _ (List.mem_append_right _ (List.mem_append_right _ (List.mem_append_left _ (List.mem_of_getElem? (i := 190) rfl)))))) (by decide +kernel)
theorem mw_fl_10_248 : (Cond.fieldLink RX10 248 "LureTown$Course" "hadBy" "[I" : Cond) ∈ cw := cw_of (List.mem_append_right _ (List.mem_append_right _ (List.mem_append_left _ (List.mem_of_getElem? (i := 108) (by decide +kernel))))) (by decide +kernel)
theorem mw_inst_X10_goDrawn : (Cond.instanceMethod yX10_goDrawn : Cond) ∈ cw := cw_of (List.mem_append_right _ (List.mem_append_right _ (List.mem_append_right _ (List.mem_append_right _ (List.mem_append_left _ (List.mem_of_getElem? (i := 197) (by decide +kernel))))))) (by decide +kernel)
theorem mw_inst_X10_goTillHad : (Cond.instanceMethod yX10_goTillHad : Cond) ∈ cw := cw_of (List.mem_append_right _ (List.mem_append_right _ (List.mem_append_right _ (List.mem_append_right _ (List.mem_append_left _ (List.mem_of_getElem? (i := 177) (by decide +kernel))))))) (by decide +kernel)
theorem mw_inst_X10_markSteps : (Cond.instanceMethod yX10_markSteps : Cond) ∈ cw := cw_of (List.mem_append_right _ (List.mem_append_right _ (List.mem_append_right _ (List.mem_append_right _ (List.mem_append_left _ (List.mem_of_getElem? (i := 189) (by decide +kernel))))))) (by decide +kernel)
theorem mw_ml_10_245 : (Cond.methodLink RX10 245 yX10_goTillHad : Cond) ∈ cw := cw_of (List.mem_append_right _ (List.mem_append_right _ (List.mem_append_right _ (List.mem_append_right _ (List.mem_append_left _ (List.mem_of_getElem? (i := 175) (by decide +kernel))))))) (by decide +kernel)
theorem mw_ml_10_251 : (Cond.methodLink RX10 251 yX10_markSteps : Cond) ∈ cw := cw_of (List.mem_append_right _ (List.mem_append_right _ (List.mem_append_right _ (List.mem_append_right _ (List.mem_append_left _ (List.mem_of_getElem? (i := 187) (by decide +kernel))))))) (by decide +kernel)
theorem mw_ml_10_254 : (Cond.methodLink RX10 254 yX10_goDrawn : Cond) ∈ cw := cw_of (List.mem_append_right _ (List.mem_append_right _ (List.mem_append_right _ (List.mem_append_right _ (List.mem_append_left _ (List.mem_of_getElem? (i := 195) (by decide +kernel))))))) (by decide +kernel)
theorem mw_sel_X10_goDrawn : (Cond.selects RX10 yX10_goDrawn yX10_goDrawn : Cond) ∈ cw := cw_of (List.mem_append_left _ (List.mem_of_getElem? (i := 39) (by decide +kernel))) (by decide +kernel)
theorem mw_sel_X10_goTillHad : (Cond.selects RX10 yX10_goTillHad yX10_goTillHad : Cond) ∈ cw := cw_of (List.mem_append_left _ (List.mem_of_getElem? (i := 37) (by decide +kernel))) (by decide +kernel)
theorem mw_sel_X10_markSteps : (Cond.selects RX10 yX10_markSteps yX10_markSteps : Cond) ∈ cw := cw_of (List.mem_append_left _ (List.mem_of_getElem? (i := 38) (by decide +kernel))) (by decide +kernel)
theorem dX10_first_0 : decode cX10_first 0 = .ok (.aload_n 0, 1) := by decide +kernel
theorem dX10_first_1 : decode cX10_first 1 = .ok (.invokevirtual 219, 3) := by decide +kernel
theorem dX10_first_4 : decode cX10_first 4 = .ok (.ifCond .eq 12, 3) := by decide +kernel
theorem dX10_first_7 : decode cX10_first 7 = .ok (.iload_n 1, 1) := by decide +kernel
theorem dX10_first_8 : decode cX10_first 8 = .ok (.ifCond .lt 8, 3) := by decide +kernel
theorem dX10_first_11 : decode cX10_first 11 = .ok (.iload_n 1, 1) := by decide +kernel
theorem dX10_first_12 : decode cX10_first 12 = .ok (.iconst 1, 1) := by decide +kernel
theorem dX10_first_13 : decode cX10_first 13 = .ok (.if_icmp .le 5, 3) := by decide +kernel
theorem dX10_first_16 : decode cX10_first 16 = .ok (.iconst (-1), 1) := by decide +kernel
theorem dX10_first_17 : decode cX10_first 17 = .ok (.ireturn, 1) := by decide +kernel
theorem dX10_first_18 : decode cX10_first 18 = .ok (.aload_n 0, 1) := by decide +kernel
theorem dX10_first_19 : decode cX10_first 19 = .ok (.bipush 31, 2) := by decide +kernel
theorem dX10_first_21 : decode cX10_first 21 = .ok (.invokevirtual 245, 3) := by decide +kernel
theorem dX10_first_24 : decode cX10_first 24 = .ok (.istore_n 2, 1) := by decide +kernel
theorem dX10_first_25 : decode cX10_first 25 = .ok (.iconst 0, 1) := by decide +kernel
theorem dX10_first_26 : decode cX10_first 26 = .ok (.istore_n 3, 1) := by decide +kernel
theorem dX10_first_27 : decode cX10_first 27 = .ok (.iload_n 3, 1) := by decide +kernel
theorem dX10_first_28 : decode cX10_first 28 = .ok (.iconst 5, 1) := by decide +kernel
theorem dX10_first_29 : decode cX10_first 29 = .ok (.if_icmp .ge 38, 3) := by decide +kernel
theorem dX10_first_32 : decode cX10_first 32 = .ok (.iload_n 2, 1) := by decide +kernel
theorem dX10_first_33 : decode cX10_first 33 = .ok (.iload_n 3, 1) := by decide +kernel
theorem dX10_first_34 : decode cX10_first 34 = .ok (.ishr, 1) := by decide +kernel
theorem dX10_first_35 : decode cX10_first 35 = .ok (.iconst 1, 1) := by decide +kernel
theorem dX10_first_36 : decode cX10_first 36 = .ok (.iand, 1) := by decide +kernel
theorem dX10_first_37 : decode cX10_first 37 = .ok (.ifCond .eq 24, 3) := by decide +kernel
theorem dX10_first_40 : decode cX10_first 40 = .ok (.iload_n 1, 1) := by decide +kernel
theorem dX10_first_41 : decode cX10_first 41 = .ok (.ifCond .ne 18, 3) := by decide +kernel
theorem dX10_first_44 : decode cX10_first 44 = .ok (.aload_n 0, 1) := by decide +kernel
theorem dX10_first_45 : decode cX10_first 45 = .ok (.getfield 76, 3) := by decide +kernel
theorem dX10_first_48 : decode cX10_first 48 = .ok (.getfield 232, 3) := by decide +kernel
theorem dX10_first_51 : decode cX10_first 51 = .ok (.getfield 201, 3) := by decide +kernel
theorem dX10_first_54 : decode cX10_first 54 = .ok (.iconst 1, 1) := by decide +kernel
theorem dX10_first_55 : decode cX10_first 55 = .ok (.isub, 1) := by decide +kernel
theorem dX10_first_56 : decode cX10_first 56 = .ok (.goto 4, 3) := by decide +kernel
theorem dX10_first_59 : decode cX10_first 59 = .ok (.iload_n 3, 1) := by decide +kernel
theorem dX10_first_60 : decode cX10_first 60 = .ok (.ireturn, 1) := by decide +kernel
theorem dX10_first_61 : decode cX10_first 61 = .ok (.iinc 3 1, 3) := by decide +kernel
theorem dX10_first_64 : decode cX10_first 64 = .ok (.goto (-37), 3) := by decide +kernel
theorem dX10_first_67 : decode cX10_first 67 = .ok (.bipush (-2), 2) := by decide +kernel
theorem dX10_first_69 : decode cX10_first 69 = .ok (.ireturn, 1) := by decide +kernel
theorem dX10_had_0 : decode cX10_had 0 = .ok (.aload_n 0, 1) := by decide +kernel
theorem dX10_had_1 : decode cX10_had 1 = .ok (.iload_n 1, 1) := by decide +kernel
theorem dX10_had_2 : decode cX10_had 2 = .ok (.invokevirtual 168, 3) := by decide +kernel
theorem dX10_had_5 : decode cX10_had 5 = .ok (.ifCond .eq 12, 3) := by decide +kernel
theorem dX10_had_8 : decode cX10_had 8 = .ok (.iload_n 2, 1) := by decide +kernel
theorem dX10_had_9 : decode cX10_had 9 = .ok (.ifCond .lt 8, 3) := by decide +kernel
theorem dX10_had_12 : decode cX10_had 12 = .ok (.iload_n 2, 1) := by decide +kernel
theorem dX10_had_13 : decode cX10_had 13 = .ok (.iconst 1, 1) := by decide +kernel
theorem dX10_had_14 : decode cX10_had 14 = .ok (.if_icmp .le 5, 3) := by decide +kernel
theorem dX10_had_17 : decode cX10_had 17 = .ok (.iconst (-1), 1) := by decide +kernel
theorem dX10_had_18 : decode cX10_had 18 = .ok (.ireturn, 1) := by decide +kernel
theorem dX10_had_19 : decode cX10_had 19 = .ok (.aload_n 0, 1) := by decide +kernel
theorem dX10_had_20 : decode cX10_had 20 = .ok (.iconst 1, 1) := by decide +kernel
theorem dX10_had_21 : decode cX10_had 21 = .ok (.iload_n 1, 1) := by decide +kernel
theorem dX10_had_22 : decode cX10_had 22 = .ok (.ishl, 1) := by decide +kernel
theorem dX10_had_23 : decode cX10_had 23 = .ok (.invokevirtual 245, 3) := by decide +kernel
theorem dX10_had_26 : decode cX10_had 26 = .ok (.ifCond .ne 6, 3) := by decide +kernel
theorem dX10_had_29 : decode cX10_had 29 = .ok (.bipush (-2), 2) := by decide +kernel
theorem dX10_had_31 : decode cX10_had 31 = .ok (.ireturn, 1) := by decide +kernel
theorem dX10_had_32 : decode cX10_had 32 = .ok (.iload_n 2, 1) := by decide +kernel
theorem dX10_had_33 : decode cX10_had 33 = .ok (.ifCond .ne 18, 3) := by decide +kernel
theorem dX10_had_36 : decode cX10_had 36 = .ok (.aload_n 0, 1) := by decide +kernel
theorem dX10_had_37 : decode cX10_had 37 = .ok (.getfield 76, 3) := by decide +kernel
theorem dX10_had_40 : decode cX10_had 40 = .ok (.getfield 232, 3) := by decide +kernel
theorem dX10_had_43 : decode cX10_had 43 = .ok (.getfield 201, 3) := by decide +kernel
theorem dX10_had_46 : decode cX10_had 46 = .ok (.iconst 1, 1) := by decide +kernel
theorem dX10_had_47 : decode cX10_had 47 = .ok (.isub, 1) := by decide +kernel
theorem dX10_had_48 : decode cX10_had 48 = .ok (.goto 12, 3) := by decide +kernel
theorem dX10_had_51 : decode cX10_had 51 = .ok (.aload_n 0, 1) := by decide +kernel
theorem dX10_had_52 : decode cX10_had 52 = .ok (.getfield 76, 3) := by decide +kernel
theorem dX10_had_55 : decode cX10_had 55 = .ok (.getfield 248, 3) := by decide +kernel
theorem dX10_had_58 : decode cX10_had 58 = .ok (.iload_n 1, 1) := by decide +kernel
theorem dX10_had_59 : decode cX10_had 59 = .ok (.iaload, 1) := by decide +kernel
theorem dX10_had_60 : decode cX10_had 60 = .ok (.ireturn, 1) := by decide +kernel
theorem dX10_nights_0 : decode cX10_nights 0 = .ok (.aload_n 0, 1) := by decide +kernel
theorem dX10_nights_1 : decode cX10_nights 1 = .ok (.invokevirtual 219, 3) := by decide +kernel
theorem dX10_nights_4 : decode cX10_nights 4 = .ok (.ifCond .eq 25, 3) := by decide +kernel
theorem dX10_nights_7 : decode cX10_nights 7 = .ok (.iload_n 1, 1) := by decide +kernel
theorem dX10_nights_8 : decode cX10_nights 8 = .ok (.iconst 1, 1) := by decide +kernel
theorem dX10_nights_9 : decode cX10_nights 9 = .ok (.if_icmp .lt 20, 3) := by decide +kernel
theorem dX10_nights_12 : decode cX10_nights 12 = .ok (.iload_n 1, 1) := by decide +kernel
theorem dX10_nights_13 : decode cX10_nights 13 = .ok (.bipush 10, 2) := by decide +kernel
theorem dX10_nights_15 : decode cX10_nights 15 = .ok (.if_icmp .gt 14, 3) := by decide +kernel
theorem dX10_nights_18 : decode cX10_nights 18 = .ok (.iload_n 2, 1) := by decide +kernel
theorem dX10_nights_19 : decode cX10_nights 19 = .ok (.iconst 1, 1) := by decide +kernel
theorem dX10_nights_20 : decode cX10_nights 20 = .ok (.if_icmp .lt 9, 3) := by decide +kernel
theorem dX10_nights_23 : decode cX10_nights 23 = .ok (.iload_n 2, 1) := by decide +kernel
theorem dX10_nights_24 : decode cX10_nights 24 = .ok (.bipush 60, 2) := by decide +kernel
theorem dX10_nights_26 : decode cX10_nights 26 = .ok (.if_icmp .le 5, 3) := by decide +kernel
theorem dX10_nights_29 : decode cX10_nights 29 = .ok (.iconst (-1), 1) := by decide +kernel
theorem dX10_nights_30 : decode cX10_nights 30 = .ok (.ireturn, 1) := by decide +kernel
theorem dX10_nights_31 : decode cX10_nights 31 = .ok (.iload_n 3, 1) := by decide +kernel
theorem dX10_nights_32 : decode cX10_nights 32 = .ok (.ifCond .lt 20, 3) := by decide +kernel
theorem dX10_nights_35 : decode cX10_nights 35 = .ok (.iload_n 3, 1) := by decide +kernel
theorem dX10_nights_36 : decode cX10_nights 36 = .ok (.bipush 100, 2) := by decide +kernel
theorem dX10_nights_38 : decode cX10_nights 38 = .ok (.if_icmp .gt 14, 3) := by decide +kernel
theorem dX10_nights_41 : decode cX10_nights 41 = .ok (.iload 4, 2) := by decide +kernel
theorem dX10_nights_43 : decode cX10_nights 43 = .ok (.ifCond .lt 9, 3) := by decide +kernel
theorem dX10_nights_46 : decode cX10_nights 46 = .ok (.iload 4, 2) := by decide +kernel
theorem dX10_nights_48 : decode cX10_nights 48 = .ok (.iconst 1, 1) := by decide +kernel
theorem dX10_nights_49 : decode cX10_nights 49 = .ok (.if_icmp .le 5, 3) := by decide +kernel
theorem dX10_nights_52 : decode cX10_nights 52 = .ok (.iconst (-1), 1) := by decide +kernel
theorem dX10_nights_53 : decode cX10_nights 53 = .ok (.ireturn, 1) := by decide +kernel
theorem dX10_nights_54 : decode cX10_nights 54 = .ok (.iconst 0, 1) := by decide +kernel
theorem dX10_nights_55 : decode cX10_nights 55 = .ok (.istore 5, 2) := by decide +kernel
theorem dX10_nights_57 : decode cX10_nights 57 = .ok (.aload_n 0, 1) := by decide +kernel
theorem dX10_nights_58 : decode cX10_nights 58 = .ok (.getfield 55, 3) := by decide +kernel
theorem dX10_nights_61 : decode cX10_nights 61 = .ok (.getfield 216, 3) := by decide +kernel
theorem dX10_nights_64 : decode cX10_nights 64 = .ok (.i2l, 1) := by decide +kernel
theorem dX10_nights_65 : decode cX10_nights 65 = .ok (.lstore 6, 2) := by decide +kernel
theorem dX10_nights_67 : decode cX10_nights 67 = .ok (.iconst 0, 1) := by decide +kernel
theorem dX10_nights_68 : decode cX10_nights 68 = .ok (.istore 8, 2) := by decide +kernel
theorem dX10_nights_70 : decode cX10_nights 70 = .ok (.iload 8, 2) := by decide +kernel
theorem dX10_nights_72 : decode cX10_nights 72 = .ok (.iload_n 1, 1) := by decide +kernel
theorem dX10_nights_73 : decode cX10_nights 73 = .ok (.if_icmp .ge 69, 3) := by decide +kernel
theorem dX10_nights_76 : decode cX10_nights 76 = .ok (.aload_n 0, 1) := by decide +kernel
theorem dX10_nights_77 : decode cX10_nights 77 = .ok (.invokevirtual 226, 3) := by decide +kernel
theorem dX10_nights_80 : decode cX10_nights 80 = .ok (.aload_n 0, 1) := by decide +kernel
theorem dX10_nights_81 : decode cX10_nights 81 = .ok (.iload_n 2, 1) := by decide +kernel
theorem dX10_nights_82 : decode cX10_nights 82 = .ok (.iload_n 3, 1) := by decide +kernel
theorem dX10_nights_83 : decode cX10_nights 83 = .ok (.lload 6, 2) := by decide +kernel
theorem dX10_nights_85 : decode cX10_nights 85 = .ok (.invokevirtual 254, 3) := by decide +kernel
theorem dX10_nights_88 : decode cX10_nights 88 = .ok (.lstore 6, 2) := by decide +kernel
theorem dX10_nights_90 : decode cX10_nights 90 = .ok (.iload 5, 2) := by decide +kernel
theorem dX10_nights_92 : decode cX10_nights 92 = .ok (.iload 4, 2) := by decide +kernel
theorem dX10_nights_94 : decode cX10_nights 94 = .ok (.ifCond .ne 26, 3) := by decide +kernel
theorem dX10_nights_97 : decode cX10_nights 97 = .ok (.aload_n 0, 1) := by decide +kernel
theorem dX10_nights_98 : decode cX10_nights 98 = .ok (.getfield 76, 3) := by decide +kernel
theorem dX10_nights_101 : decode cX10_nights 101 = .ok (.getfield 232, 3) := by decide +kernel
theorem dX10_nights_104 : decode cX10_nights 104 = .ok (.aload_n 0, 1) := by decide +kernel
theorem dX10_nights_105 : decode cX10_nights 105 = .ok (.getfield 55, 3) := by decide +kernel
theorem dX10_nights_108 : decode cX10_nights 108 = .ok (.getfield 114, 3) := by decide +kernel
theorem dX10_nights_111 : decode cX10_nights 111 = .ok (.getfield 140, 3) := by decide +kernel
theorem dX10_nights_114 : decode cX10_nights 114 = .ok (.invokevirtual 211, 3) := by decide +kernel
theorem dX10_nights_117 : decode cX10_nights 117 = .ok (.goto 16, 3) := by decide +kernel
theorem dX10_nights_120 : decode cX10_nights 120 = .ok (.aload_n 0, 1) := by decide +kernel
theorem dX10_nights_121 : decode cX10_nights 121 = .ok (.getfield 76, 3) := by decide +kernel
theorem dX10_nights_124 : decode cX10_nights 124 = .ok (.getfield 232, 3) := by decide +kernel
theorem dX10_nights_127 : decode cX10_nights 127 = .ok (.getfield 204, 3) := by decide +kernel
theorem dX10_nights_130 : decode cX10_nights 130 = .ok (.invokestatic 258, 3) := by decide +kernel
theorem dX10_nights_133 : decode cX10_nights 133 = .ok (.iadd, 1) := by decide +kernel
theorem dX10_nights_134 : decode cX10_nights 134 = .ok (.istore 5, 2) := by decide +kernel
theorem dX10_nights_136 : decode cX10_nights 136 = .ok (.iinc 8 1, 3) := by decide +kernel
theorem dX10_nights_139 : decode cX10_nights 139 = .ok (.goto (-69), 3) := by decide +kernel
theorem dX10_nights_142 : decode cX10_nights 142 = .ok (.iload 5, 2) := by decide +kernel
theorem dX10_nights_144 : decode cX10_nights 144 = .ok (.ireturn, 1) := by decide +kernel
theorem dX10_ring_0 : decode cX10_ring 0 = .ok (.aload_n 0, 1) := by decide +kernel
theorem dX10_ring_1 : decode cX10_ring 1 = .ok (.invokevirtual 219, 3) := by decide +kernel
theorem dX10_ring_4 : decode cX10_ring 4 = .ok (.ifCond .eq 12, 3) := by decide +kernel
theorem dX10_ring_7 : decode cX10_ring 7 = .ok (.iload_n 1, 1) := by decide +kernel
theorem dX10_ring_8 : decode cX10_ring 8 = .ok (.ifCond .lt 8, 3) := by decide +kernel
theorem dX10_ring_11 : decode cX10_ring 11 = .ok (.iload_n 1, 1) := by decide +kernel
theorem dX10_ring_12 : decode cX10_ring 12 = .ok (.iconst 1, 1) := by decide +kernel
theorem dX10_ring_13 : decode cX10_ring 13 = .ok (.if_icmp .le 5, 3) := by decide +kernel
theorem dX10_ring_16 : decode cX10_ring 16 = .ok (.iconst (-1), 1) := by decide +kernel
theorem dX10_ring_17 : decode cX10_ring 17 = .ok (.ireturn, 1) := by decide +kernel
theorem dX10_ring_18 : decode cX10_ring 18 = .ok (.aload_n 0, 1) := by decide +kernel
theorem dX10_ring_19 : decode cX10_ring 19 = .ok (.invokevirtual 251, 3) := by decide +kernel
theorem dX10_ring_22 : decode cX10_ring 22 = .ok (.iconst 0, 1) := by decide +kernel
theorem dX10_ring_23 : decode cX10_ring 23 = .ok (.istore_n 2, 1) := by decide +kernel
theorem dX10_ring_24 : decode cX10_ring 24 = .ok (.iload_n 2, 1) := by decide +kernel
theorem dX10_ring_25 : decode cX10_ring 25 = .ok (.bipush 60, 2) := by decide +kernel
theorem dX10_ring_27 : decode cX10_ring 27 = .ok (.if_icmp .ge 63, 3) := by decide +kernel
theorem dX10_ring_30 : decode cX10_ring 30 = .ok (.iload_n 2, 1) := by decide +kernel
theorem dX10_ring_31 : decode cX10_ring 31 = .ok (.iconst 1, 1) := by decide +kernel
theorem dX10_ring_32 : decode cX10_ring 32 = .ok (.iadd, 1) := by decide +kernel
theorem dX10_ring_33 : decode cX10_ring 33 = .ok (.istore_n 3, 1) := by decide +kernel
theorem dX10_ring_34 : decode cX10_ring 34 = .ok (.iload_n 3, 1) := by decide +kernel
theorem dX10_ring_35 : decode cX10_ring 35 = .ok (.bipush 60, 2) := by decide +kernel
theorem dX10_ring_37 : decode cX10_ring 37 = .ok (.if_icmp .gt 47, 3) := by decide +kernel
theorem dX10_ring_40 : decode cX10_ring 40 = .ok (.aload_n 0, 1) := by decide +kernel
theorem dX10_ring_41 : decode cX10_ring 41 = .ok (.getfield 91, 3) := by decide +kernel
theorem dX10_ring_44 : decode cX10_ring 44 = .ok (.iload_n 2, 1) := by decide +kernel
theorem dX10_ring_45 : decode cX10_ring 45 = .ok (.iaload, 1) := by decide +kernel
theorem dX10_ring_46 : decode cX10_ring 46 = .ok (.aload_n 0, 1) := by decide +kernel
theorem dX10_ring_47 : decode cX10_ring 47 = .ok (.getfield 91, 3) := by decide +kernel
theorem dX10_ring_50 : decode cX10_ring 50 = .ok (.iload_n 3, 1) := by decide +kernel
theorem dX10_ring_51 : decode cX10_ring 51 = .ok (.iaload, 1) := by decide +kernel
theorem dX10_ring_52 : decode cX10_ring 52 = .ok (.if_icmp .ne 26, 3) := by decide +kernel
theorem dX10_ring_55 : decode cX10_ring 55 = .ok (.iload_n 1, 1) := by decide +kernel
theorem dX10_ring_56 : decode cX10_ring 56 = .ok (.ifCond .ne 18, 3) := by decide +kernel
theorem dX10_ring_59 : decode cX10_ring 59 = .ok (.aload_n 0, 1) := by decide +kernel
theorem dX10_ring_60 : decode cX10_ring 60 = .ok (.getfield 55, 3) := by decide +kernel
theorem dX10_ring_63 : decode cX10_ring 63 = .ok (.getfield 121, 3) := by decide +kernel
theorem dX10_ring_66 : decode cX10_ring 66 = .ok (.getfield 201, 3) := by decide +kernel
theorem dX10_ring_69 : decode cX10_ring 69 = .ok (.iload_n 2, 1) := by decide +kernel
theorem dX10_ring_70 : decode cX10_ring 70 = .ok (.iadd, 1) := by decide +kernel
theorem dX10_ring_71 : decode cX10_ring 71 = .ok (.goto 6, 3) := by decide +kernel
theorem dX10_ring_74 : decode cX10_ring 74 = .ok (.iload_n 3, 1) := by decide +kernel
theorem dX10_ring_75 : decode cX10_ring 75 = .ok (.iload_n 2, 1) := by decide +kernel
theorem dX10_ring_76 : decode cX10_ring 76 = .ok (.isub, 1) := by decide +kernel
theorem dX10_ring_77 : decode cX10_ring 77 = .ok (.ireturn, 1) := by decide +kernel
theorem dX10_ring_78 : decode cX10_ring 78 = .ok (.iinc 3 1, 3) := by decide +kernel
theorem dX10_ring_81 : decode cX10_ring 81 = .ok (.goto (-47), 3) := by decide +kernel
theorem dX10_ring_84 : decode cX10_ring 84 = .ok (.iinc 2 1, 3) := by decide +kernel
theorem dX10_ring_87 : decode cX10_ring 87 = .ok (.goto (-63), 3) := by decide +kernel
theorem dX10_ring_90 : decode cX10_ring 90 = .ok (.bipush (-2), 2) := by decide +kernel
theorem dX10_ring_92 : decode cX10_ring 92 = .ok (.ireturn, 1) := by decide +kernel
theorem hd_X10_goDrawn : yX10_goDrawn.cls ≠ "java/lang/invoke/MethodHandle" ∧ yX10_goDrawn.cls ≠ "java/lang/invoke/VarHandle" ∧ (parseMethodDescriptor yX10_goDrawn.desc).map (fun d => d.parameters.length) = some 3 := ⟨by decide +kernel, by decide +kernel, by decide +kernel⟩
theorem hd_X10_goTillHad : yX10_goTillHad.cls ≠ "java/lang/invoke/MethodHandle" ∧ yX10_goTillHad.cls ≠ "java/lang/invoke/VarHandle" ∧ (parseMethodDescriptor yX10_goTillHad.desc).map (fun d => d.parameters.length) = some 1 := ⟨by decide +kernel, by decide +kernel, by decide +kernel⟩
theorem hd_X10_markSteps : yX10_markSteps.cls ≠ "java/lang/invoke/MethodHandle" ∧ yX10_markSteps.cls ≠ "java/lang/invoke/VarHandle" ∧ (parseMethodDescriptor yX10_markSteps.desc).map (fun d => d.parameters.length) = some 0 := ⟨by decide +kernel, by decide +kernel, by decide +kernel⟩
set_option maxHeartbeats 4000000 in
set_option maxRecDepth 100000 in
theorem k_had (l : Launch) (D : va_G) (K : Nat → ClassId) (ad : Nat → Nat) (z : TS) (o : Ok z) (x1 : Int32) (x2 : Int32) : cI l yX10_had cX10_had 3 .int ({ frames := 6, cells := 0, slots := 0, locals := 147 }) D K ad z [.ref (ad 0), .int x1, .int x2] (fun r u => Ok u ∧ KC z u) := by
  refine t_enterI (by decide) (Nat.le_of_ble_eq_true rfl) rfl rfl ?_
  intro p e s m args below meth c A R Q H locs ls E hfr hlo RET G hl
  have E : mE p s m meth c cX10_had args 3 RX10 D K A := E
  have hl : lv_has ls 3 [(0, .ref (ad 0)), (1, .int x1), (2, .int x2)] := hl
  refine lv_aload_n E.1 E.2.1 dX10_had_0 rfl (lv_at hl 0 rfl) ?_
  refine lv_iload_n E.1 E.2.1 dX10_had_1 rfl (lv_at hl 1 rfl) ?_
  refine t_vi E G hl (h_walker l D K ad z o x1) 10 (rfl : ro 0 = 10) (by decide) rfl rfl 1 rfl mw_code_X10_hasWalker mw_ini_10 mw_ml_10_168 mw_inst_X10_hasWalker mw_sel_X10_hasWalker hd_X10_hasWalker ⟨Nat.le_trans (by decide) hfr, Nat.le_trans (by decide) hlo⟩ rfl rfl rfl (Nat.le_of_ble_eq_true rfl) dX10_had_2 (fun r2 zz1 H locs hp3 G => ?_)
  obtain ⟨hz6, b4, h5⟩ := hp3
  rw [hz6] at G
  refine lv_if_eq (tgt := 17) E.1 E.2.1 dX10_had_5 (by decide) (fun c7 => ?_) (fun c7 => ?_)
  · skip
    have b8 : iv 0 0 r2 := iv_eq c7 (iv_lit (lo := 0) (hi := 0) 0 (by decide) (by decide))
    refine lv_iconst (v := (-1)) E.1 E.2.1 dX10_had_17 (by decide) ?_
    exact RET G ⟨o, KC.rf⟩ rfl dX10_had_18
  · skip
    have b9 : iv 1 1 r2 := ne_lo c7 b4 (by decide) (by decide)
    have b10 : iv 0 4 x1 := h5 c7
    refine lv_iload_n E.1 E.2.1 dX10_had_8 rfl (lv_at hl 2 rfl) ?_
    refine lv_if_lt (tgt := 17) E.1 E.2.1 dX10_had_9 (by decide) (fun c11 => ?_) (fun c11 => ?_)
    · skip
      have b12 : iv (-2147483648) (-1) x2 := lt_l c11 (iv_full x2) (iv_lit (lo := 0) (hi := 0) 0 (by decide) (by decide)) (by decide)
      refine lv_iconst (v := (-1)) E.1 E.2.1 dX10_had_17 (by decide) ?_
      exact RET G ⟨o, KC.rf⟩ rfl dX10_had_18
    · skip
      have b13 : iv 0 2147483647 x2 := le_r (Int32.not_lt.mp c11) (iv_lit (lo := 0) (hi := 0) 0 (by decide) (by decide)) (iv_full x2) (by decide)
      refine lv_iload_n E.1 E.2.1 dX10_had_12 rfl (lv_at hl 2 rfl) ?_
      refine lv_iconst (v := 1) E.1 E.2.1 dX10_had_13 (by decide) ?_
      refine lv_icmp_le (tgt := 19) E.1 E.2.1 dX10_had_14 (by decide) (fun c14 => ?_) (fun c14 => ?_)
      · skip
        have b15 : iv 0 1 x2 := le_l c14 b13 (iv_lit (lo := 1) (hi := 1) 1 (by decide) (by decide)) (by decide)
        refine lv_aload_n E.1 E.2.1 dX10_had_19 rfl (lv_at hl 0 rfl) ?_
        refine lv_iconst (v := 1) E.1 E.2.1 dX10_had_20 (by decide) ?_
        refine lv_iload_n E.1 E.2.1 dX10_had_21 rfl (lv_at hl 1 rfl) ?_
        refine lv_ishl E.1 E.2.1 dX10_had_22 ?_
        refine lv_topi (fun v16 e17 => ?_)
        have b18 : iv 1 256 v16 := by rw [e17]; exact iv_shl8 (iv_mono b10 (by decide) (by decide))
        refine t_vi E G hl (k_goTillHad l D K ad z o v16) 10 (rfl : ro 0 = 10) (by decide) rfl rfl 1 rfl mw_code_X10_goTillHad mw_ini_10 mw_ml_10_245 mw_inst_X10_goTillHad mw_sel_X10_goTillHad hd_X10_goTillHad ⟨Nat.le_trans (by decide) hfr, Nat.le_trans (by decide) hlo⟩ rfl rfl rfl (Nat.le_of_ble_eq_true rfl) dX10_had_23 (fun r20 zz19 H locs hp21 G => ?_)
        obtain ⟨oo22, kk23⟩ := hp21
        have kk24 : KC z zz19 := KC.tr KC.rf kk23
        refine lv_if_ne (tgt := 32) E.1 E.2.1 dX10_had_26 (by decide) (fun c25 => ?_) (fun c25 => ?_)
        · skip
          refine lv_iload_n E.1 E.2.1 dX10_had_32 rfl (lv_at hl 2 rfl) ?_
          refine lv_if_ne (tgt := 51) E.1 E.2.1 dX10_had_33 (by decide) (fun c26 => ?_) (fun c26 => ?_)
          · skip
            have b27 : iv 1 1 x2 := ne_lo c26 b15 (by decide) (by decide)
            refine lv_aload_n E.1 E.2.1 dX10_had_51 rfl (lv_at hl 0 rfl) ?_
            refine t_get E G 10 11 (rfl : ro 0 = 10) (C := RX10) (T := TX10) (N := 17) rfl (by decide) (by decide) (by decide) mw_fl_10_76 (v := .ref (ad 324)) (fvl_o (n := 324) rfl) dX10_had_52 ?_
            refine t_get E G 1 1 (rfl : ro 324 = 1) (C := RX1) (T := TX1) (N := 6) rfl (by decide) (by decide) (by decide) mw_fl_10_248 (v := .ref (ad 332)) (fvl_o (n := 8) rfl) dX10_had_55 ?_
            refine lv_iload_n E.1 E.2.1 dX10_had_58 rfl (lv_at hl 1 rfl) ?_
            refine t_iald E G 39 (rfl : ro 332 = 39) (by decide) (by decide) rfl (n := 5) rfl (iv_vp b10 (by decide) (by decide)) dX10_had_59 ?_
            refine lv_topi (fun v28 e29 => ?_)
            have b30 : iv (-1) 5 v28 := by rw [e29]; exact oo22.ac 39 (rfl : ro 332 = 39) (by decide) _
            exact RET G ⟨oo22, kk24⟩ rfl dX10_had_60
          · skip
            have b31 : iv 0 0 x2 := iv_eq c26 (iv_lit (lo := 0) (hi := 0) 0 (by decide) (by decide))
            refine lv_aload_n E.1 E.2.1 dX10_had_36 rfl (lv_at hl 0 rfl) ?_
            refine t_get E G 10 11 (rfl : ro 0 = 10) (C := RX10) (T := TX10) (N := 17) rfl (by decide) (by decide) (by decide) mw_fl_10_76 (v := .ref (ad 324)) (fvl_o (n := 324) rfl) dX10_had_37 ?_
            refine t_get E G 1 0 (rfl : ro 324 = 1) (C := RX1) (T := TX1) (N := 6) rfl (by decide) (by decide) (by decide) mw_fl_10_232 (v := .ref (ad 325)) (fvl_o (n := 1) rfl) dX10_had_40 ?_
            refine t_get E G 6 7 (rfl : ro 325 = 6) (C := RX6) (T := TX6) (N := 8) rfl (by decide) (by decide) (by decide) mw_fl_10_201 (fvl_i rfl) dX10_had_43 ?_
            refine lv_topi (fun v32 e33 => ?_)
            refine lv_iconst (v := 1) E.1 E.2.1 dX10_had_46 (by decide) ?_
            refine lv_isub E.1 E.2.1 dX10_had_47 ?_
            refine lv_topi (fun v34 e35 => ?_)
            refine lv_goto (tgt := 60) E.1 E.2.1 dX10_had_48 (by decide) ?_
            exact RET G ⟨oo22, kk24⟩ rfl dX10_had_60
        · skip
          have b36 : iv 0 0 r20 := iv_eq c25 (iv_lit (lo := 0) (hi := 0) 0 (by decide) (by decide))
          refine lv_bipush (v := (-2)) E.1 E.2.1 dX10_had_29 (by decide) ?_
          exact RET G ⟨oo22, kk24⟩ rfl dX10_had_31
      · skip
        have b37 : iv 2 2147483647 x2 := lt_r (Int32.not_le.mp c14) (iv_lit (lo := 1) (hi := 1) 1 (by decide) (by decide)) b13 (by decide)
        refine lv_iconst (v := (-1)) E.1 E.2.1 dX10_had_17 (by decide) ?_
        exact RET G ⟨o, KC.rf⟩ rfl dX10_had_18
set_option maxHeartbeats 4000000 in
set_option maxRecDepth 100000 in
theorem k_first (l : Launch) (D : va_G) (K : Nat → ClassId) (ad : Nat → Nat) (z : TS) (o : Ok z) (x1 : Int32) : cI l yX10_first cX10_first 4 .int ({ frames := 6, cells := 0, slots := 0, locals := 147 }) D K ad z [.ref (ad 0), .int x1] (fun r u => Ok u ∧ KC z u) := by
  refine t_enterI (by decide) (Nat.le_of_ble_eq_true rfl) rfl rfl ?_
  intro p e s m args below meth c A R Q H locs ls E hfr hlo RET G hl
  have E : mE p s m meth c cX10_first args 4 RX10 D K A := E
  have hl : lv_has ls 4 [(0, .ref (ad 0)), (1, .int x1)] := hl
  refine lv_aload_n E.1 E.2.1 dX10_first_0 rfl (lv_at hl 0 rfl) ?_
  refine t_vi E G hl (h_town l D K ad z o) 10 (rfl : ro 0 = 10) (by decide) rfl rfl 0 rfl mw_code_X10_hasTown mw_ini_10 mw_ml_10_219 mw_inst_X10_hasTown mw_sel_X10_hasTown hd_X10_hasTown ⟨Nat.le_trans (by decide) hfr, Nat.le_trans (by decide) hlo⟩ rfl rfl rfl (Nat.le_of_ble_eq_true rfl) dX10_first_1 (fun r2 zz1 H locs hp3 G => ?_)
  obtain ⟨hz5, b4⟩ := hp3
  rw [hz5] at G
  refine lv_if_eq (tgt := 16) E.1 E.2.1 dX10_first_4 (by decide) (fun c6 => ?_) (fun c6 => ?_)
  · skip
    have b7 : iv 0 0 r2 := iv_eq c6 (iv_lit (lo := 0) (hi := 0) 0 (by decide) (by decide))
    refine lv_iconst (v := (-1)) E.1 E.2.1 dX10_first_16 (by decide) ?_
    exact RET G ⟨o, KC.rf⟩ rfl dX10_first_17
  · skip
    have b8 : iv 1 1 r2 := ne_lo c6 b4 (by decide) (by decide)
    refine lv_iload_n E.1 E.2.1 dX10_first_7 rfl (lv_at hl 1 rfl) ?_
    refine lv_if_lt (tgt := 16) E.1 E.2.1 dX10_first_8 (by decide) (fun c9 => ?_) (fun c9 => ?_)
    · skip
      have b10 : iv (-2147483648) (-1) x1 := lt_l c9 (iv_full x1) (iv_lit (lo := 0) (hi := 0) 0 (by decide) (by decide)) (by decide)
      refine lv_iconst (v := (-1)) E.1 E.2.1 dX10_first_16 (by decide) ?_
      exact RET G ⟨o, KC.rf⟩ rfl dX10_first_17
    · skip
      have b11 : iv 0 2147483647 x1 := le_r (Int32.not_lt.mp c9) (iv_lit (lo := 0) (hi := 0) 0 (by decide) (by decide)) (iv_full x1) (by decide)
      refine lv_iload_n E.1 E.2.1 dX10_first_11 rfl (lv_at hl 1 rfl) ?_
      refine lv_iconst (v := 1) E.1 E.2.1 dX10_first_12 (by decide) ?_
      refine lv_icmp_le (tgt := 18) E.1 E.2.1 dX10_first_13 (by decide) (fun c12 => ?_) (fun c12 => ?_)
      · skip
        have b13 : iv 0 1 x1 := le_l c12 b11 (iv_lit (lo := 1) (hi := 1) 1 (by decide) (by decide)) (by decide)
        refine lv_aload_n E.1 E.2.1 dX10_first_18 rfl (lv_at hl 0 rfl) ?_
        refine lv_bipush (v := 31) E.1 E.2.1 dX10_first_19 (by decide) ?_
        refine t_vi E G hl (k_goTillHad l D K ad z o (31 : Int32)) 10 (rfl : ro 0 = 10) (by decide) rfl rfl 1 rfl mw_code_X10_goTillHad mw_ini_10 mw_ml_10_245 mw_inst_X10_goTillHad mw_sel_X10_goTillHad hd_X10_goTillHad ⟨Nat.le_trans (by decide) hfr, Nat.le_trans (by decide) hlo⟩ rfl rfl rfl (Nat.le_of_ble_eq_true rfl) dX10_first_21 (fun r15 zz14 H locs hp16 G => ?_)
        obtain ⟨oo17, kk18⟩ := hp16
        have kk19 : KC z zz14 := KC.tr KC.rf kk18
        refine lv_istore_n (lv' := [(2, .int r15), (0, .ref (ad 0)), (1, .int x1)]) E.1 E.2.1 dX10_first_24 rfl hl (by decide) rfl (fun ls hl => ?_)
        refine lv_iconst (v := 0) E.1 E.2.1 dX10_first_25 (by decide) ?_
        refine lv_istore_n (lv' := [(3, .int 0), (2, .int r15), (0, .ref (ad 0)), (1, .int x1)]) E.1 E.2.1 dX10_first_26 rfl hl (by decide) rfl (fun ls hl => ?_)
        have LOOP27 : ∀ n : Nat, ∀ (y20 : Int32) (H : Heap) (locs : List Loc) (ls : Array Slot), mG D A s H locs (wd K ad zz14) → iv 0 5 y20 → 5 < y20.toInt + (n : Int) → lv_has ls 4 [(3, .int y20), (2, .int r15), (0, .ref (ad 0)), (1, .int x1)] → W p l e R s m args below meth c H locs 0 0 Q (F0 m 27 ls []) := by
          intro n
          induction n with
          | zero =>
            intro y20 H locs ls G b25 m24 hl
            exact absurd m24 (by have := b25.1; have := b25.2; omega)
          | succ n ih27 =>
            intro y20 H locs ls G b25 m24 hl
            refine lv_iload_n E.1 E.2.1 dX10_first_27 rfl (lv_at hl 0 rfl) ?_
            refine lv_iconst (v := 5) E.1 E.2.1 dX10_first_28 (by decide) ?_
            refine lv_icmp_ge (tgt := 67) E.1 E.2.1 dX10_first_29 (by decide) (fun c26 => ?_) (fun c26 => ?_)
            · skip
              have b27 : iv 5 5 y20 := le_r c26 (iv_lit (lo := 5) (hi := 5) 5 (by decide) (by decide)) b25 (by decide)
              refine lv_bipush (v := (-2)) E.1 E.2.1 dX10_first_67 (by decide) ?_
              exact RET G ⟨oo17, kk19⟩ rfl dX10_first_69
            · skip
              have b28 : iv 0 4 y20 := lt_l (Int32.not_le.mp c26) b25 (iv_lit (lo := 5) (hi := 5) 5 (by decide) (by decide)) (by decide)
              refine lv_iload_n E.1 E.2.1 dX10_first_32 rfl (lv_at hl 1 rfl) ?_
              refine lv_iload_n E.1 E.2.1 dX10_first_33 rfl (lv_at hl 0 rfl) ?_
              refine lv_ishr E.1 E.2.1 dX10_first_34 ?_
              refine lv_topi (fun v29 e30 => ?_)
              refine lv_iconst (v := 1) E.1 E.2.1 dX10_first_35 (by decide) ?_
              refine lv_iand E.1 E.2.1 dX10_first_36 ?_
              refine lv_topi (fun v31 e32 => ?_)
              have b33 : iv 0 1 v31 := by rw [e32]; exact iv_and (iv_lit (lo := 1) (hi := 1) 1 (by decide) (by decide)) (by decide)
              refine lv_if_eq (tgt := 61) E.1 E.2.1 dX10_first_37 (by decide) (fun c34 => ?_) (fun c34 => ?_)
              · skip
                have b35 : iv 0 0 v31 := iv_eq c34 (iv_lit (lo := 0) (hi := 0) 0 (by decide) (by decide))
                obtain ⟨v36, e37⟩ : ∃ w : Int32, w = y20 + (1 : Int32) := ⟨_, rfl⟩
                refine lv_iinc (v := v36) (lv' := [(3, .int v36), (2, .int r15), (0, .ref (ad 0)), (1, .int x1)]) E.1 E.2.1 dX10_first_61 hl (k := 0) rfl (by rw [e37]; rfl) (by decide) rfl (fun ls hl => ?_)
                have b38 : iv 1 5 v36 := by rw [e37]; exact iv_add b28 (iv_lit (lo := 1) (hi := 1) 1 (by decide) (by decide)) (by decide) (by decide) (by decide) (by decide)
                have t39 : v36.toInt = y20.toInt + 1 := by rw [e37]; exact ti_addc 1 (by decide) b28 (by decide) (by decide)
                refine lv_goto (tgt := 27) E.1 E.2.1 dX10_first_64 (by decide) ?_
                exact ih27 v36 H locs ls G (iv_mono b38 (by decide) (by decide)) (by have := t39; have := m24; omega) (lv_sub hl [0, 1, 2, 3] rfl)
              · skip
                have b40 : iv 1 1 v31 := ne_lo c34 b33 (by decide) (by decide)
                refine lv_iload_n E.1 E.2.1 dX10_first_40 rfl (lv_at hl 3 rfl) ?_
                refine lv_if_ne (tgt := 59) E.1 E.2.1 dX10_first_41 (by decide) (fun c41 => ?_) (fun c41 => ?_)
                · skip
                  have b42 : iv 1 1 x1 := ne_lo c41 b13 (by decide) (by decide)
                  refine lv_iload_n E.1 E.2.1 dX10_first_59 rfl (lv_at hl 0 rfl) ?_
                  exact RET G ⟨oo17, kk19⟩ rfl dX10_first_60
                · skip
                  have b43 : iv 0 0 x1 := iv_eq c41 (iv_lit (lo := 0) (hi := 0) 0 (by decide) (by decide))
                  refine lv_aload_n E.1 E.2.1 dX10_first_44 rfl (lv_at hl 2 rfl) ?_
                  refine t_get E G 10 11 (rfl : ro 0 = 10) (C := RX10) (T := TX10) (N := 17) rfl (by decide) (by decide) (by decide) mw_fl_10_76 (v := .ref (ad 324)) (fvl_o (n := 324) rfl) dX10_first_45 ?_
                  refine t_get E G 1 0 (rfl : ro 324 = 1) (C := RX1) (T := TX1) (N := 6) rfl (by decide) (by decide) (by decide) mw_fl_10_232 (v := .ref (ad 325)) (fvl_o (n := 1) rfl) dX10_first_48 ?_
                  refine t_get E G 6 7 (rfl : ro 325 = 6) (C := RX6) (T := TX6) (N := 8) rfl (by decide) (by decide) (by decide) mw_fl_10_201 (fvl_i rfl) dX10_first_51 ?_
                  refine lv_topi (fun v44 e45 => ?_)
                  refine lv_iconst (v := 1) E.1 E.2.1 dX10_first_54 (by decide) ?_
                  refine lv_isub E.1 E.2.1 dX10_first_55 ?_
                  refine lv_topi (fun v46 e47 => ?_)
                  refine lv_goto (tgt := 60) E.1 E.2.1 dX10_first_56 (by decide) ?_
                  exact RET G ⟨oo17, kk19⟩ rfl dX10_first_60
        exact LOOP27 6 0 H locs ls G (iv_mono (iv_lit (lo := 0) (hi := 0) 0 (by decide) (by decide)) (by decide) (by decide)) (by have := (iv_lit (lo := 0) (hi := 0) 0 (by decide) (by decide)).1; omega) (lv_sub hl [0, 1, 2, 3] rfl)
      · skip
        have b48 : iv 2 2147483647 x1 := lt_r (Int32.not_le.mp c12) (iv_lit (lo := 1) (hi := 1) 1 (by decide) (by decide)) b11 (by decide)
        refine lv_iconst (v := (-1)) E.1 E.2.1 dX10_first_16 (by decide) ?_
        exact RET G ⟨o, KC.rf⟩ rfl dX10_first_17
set_option maxHeartbeats 4000000 in
set_option maxRecDepth 100000 in
theorem k_ring (l : Launch) (D : va_G) (K : Nat → ClassId) (ad : Nat → Nat) (z : TS) (o : Ok z) (x1 : Int32) : cI l yX10_ring cX10_ring 4 .int ({ frames := 6, cells := 0, slots := 0, locals := 147 }) D K ad z [.ref (ad 0), .int x1] (fun r u => Ok u ∧ KC z u) := by
  refine t_enterI (by decide) (Nat.le_of_ble_eq_true rfl) rfl rfl ?_
  intro p e s m args below meth c A R Q H locs ls E hfr hlo RET G hl
  have E : mE p s m meth c cX10_ring args 4 RX10 D K A := E
  have hl : lv_has ls 4 [(0, .ref (ad 0)), (1, .int x1)] := hl
  refine lv_aload_n E.1 E.2.1 dX10_ring_0 rfl (lv_at hl 0 rfl) ?_
  refine t_vi E G hl (h_town l D K ad z o) 10 (rfl : ro 0 = 10) (by decide) rfl rfl 0 rfl mw_code_X10_hasTown mw_ini_10 mw_ml_10_219 mw_inst_X10_hasTown mw_sel_X10_hasTown hd_X10_hasTown ⟨Nat.le_trans (by decide) hfr, Nat.le_trans (by decide) hlo⟩ rfl rfl rfl (Nat.le_of_ble_eq_true rfl) dX10_ring_1 (fun r2 zz1 H locs hp3 G => ?_)
  obtain ⟨hz5, b4⟩ := hp3
  rw [hz5] at G
  refine lv_if_eq (tgt := 16) E.1 E.2.1 dX10_ring_4 (by decide) (fun c6 => ?_) (fun c6 => ?_)
  · skip
    have b7 : iv 0 0 r2 := iv_eq c6 (iv_lit (lo := 0) (hi := 0) 0 (by decide) (by decide))
    refine lv_iconst (v := (-1)) E.1 E.2.1 dX10_ring_16 (by decide) ?_
    exact RET G ⟨o, KC.rf⟩ rfl dX10_ring_17
  · skip
    have b8 : iv 1 1 r2 := ne_lo c6 b4 (by decide) (by decide)
    refine lv_iload_n E.1 E.2.1 dX10_ring_7 rfl (lv_at hl 1 rfl) ?_
    refine lv_if_lt (tgt := 16) E.1 E.2.1 dX10_ring_8 (by decide) (fun c9 => ?_) (fun c9 => ?_)
    · skip
      have b10 : iv (-2147483648) (-1) x1 := lt_l c9 (iv_full x1) (iv_lit (lo := 0) (hi := 0) 0 (by decide) (by decide)) (by decide)
      refine lv_iconst (v := (-1)) E.1 E.2.1 dX10_ring_16 (by decide) ?_
      exact RET G ⟨o, KC.rf⟩ rfl dX10_ring_17
    · skip
      have b11 : iv 0 2147483647 x1 := le_r (Int32.not_lt.mp c9) (iv_lit (lo := 0) (hi := 0) 0 (by decide) (by decide)) (iv_full x1) (by decide)
      refine lv_iload_n E.1 E.2.1 dX10_ring_11 rfl (lv_at hl 1 rfl) ?_
      refine lv_iconst (v := 1) E.1 E.2.1 dX10_ring_12 (by decide) ?_
      refine lv_icmp_le (tgt := 18) E.1 E.2.1 dX10_ring_13 (by decide) (fun c12 => ?_) (fun c12 => ?_)
      · skip
        have b13 : iv 0 1 x1 := le_l c12 b11 (iv_lit (lo := 1) (hi := 1) 1 (by decide) (by decide)) (by decide)
        refine lv_aload_n E.1 E.2.1 dX10_ring_18 rfl (lv_at hl 0 rfl) ?_
        refine t_vv E G hl (k_markSteps l D K ad z o) 10 (rfl : ro 0 = 10) (by decide) rfl rfl 0 rfl mw_code_X10_markSteps mw_ini_10 mw_ml_10_251 mw_inst_X10_markSteps mw_sel_X10_markSteps hd_X10_markSteps ⟨Nat.le_trans (by decide) hfr, Nat.le_trans (by decide) hlo⟩ rfl rfl rfl (Nat.le_of_ble_eq_true rfl) dX10_ring_19 (fun zz14 H locs hp16 G => ?_)
        obtain ⟨oo17, kk18⟩ := hp16
        have kk19 : KC z zz14 := KC.tr KC.rf kk18
        refine lv_iconst (v := 0) E.1 E.2.1 dX10_ring_22 (by decide) ?_
        refine lv_istore_n (lv' := [(2, .int 0), (0, .ref (ad 0)), (1, .int x1)]) E.1 E.2.1 dX10_ring_23 rfl hl (by decide) rfl (fun ls hl => ?_)
        have LOOP24 : ∀ n : Nat, ∀ (y20 : Int32) (H : Heap) (locs : List Loc) (ls : Array Slot), mG D A s H locs (wd K ad zz14) → iv 0 60 y20 → 60 < y20.toInt + (n : Int) → lv_has ls 4 [(2, .int y20), (0, .ref (ad 0)), (1, .int x1)] → W p l e R s m args below meth c H locs 0 0 Q (F0 m 24 ls []) := by
          intro n
          induction n with
          | zero =>
            intro y20 H locs ls G b25 m24 hl
            exact absurd m24 (by have := b25.1; have := b25.2; omega)
          | succ n ih24 =>
            intro y20 H locs ls G b25 m24 hl
            refine lv_iload_n E.1 E.2.1 dX10_ring_24 rfl (lv_at hl 0 rfl) ?_
            refine lv_bipush (v := 60) E.1 E.2.1 dX10_ring_25 (by decide) ?_
            refine lv_icmp_ge (tgt := 90) E.1 E.2.1 dX10_ring_27 (by decide) (fun c26 => ?_) (fun c26 => ?_)
            · skip
              have b27 : iv 60 60 y20 := le_r c26 (iv_lit (lo := 60) (hi := 60) 60 (by decide) (by decide)) b25 (by decide)
              refine lv_bipush (v := (-2)) E.1 E.2.1 dX10_ring_90 (by decide) ?_
              exact RET G ⟨oo17, kk19⟩ rfl dX10_ring_92
            · skip
              have b28 : iv 0 59 y20 := lt_l (Int32.not_le.mp c26) b25 (iv_lit (lo := 60) (hi := 60) 60 (by decide) (by decide)) (by decide)
              refine lv_iload_n E.1 E.2.1 dX10_ring_30 rfl (lv_at hl 0 rfl) ?_
              refine lv_iconst (v := 1) E.1 E.2.1 dX10_ring_31 (by decide) ?_
              refine lv_iadd E.1 E.2.1 dX10_ring_32 ?_
              refine lv_topi (fun v29 e30 => ?_)
              have b31 : iv 1 60 v29 := by rw [e30]; exact iv_add b28 (iv_lit (lo := 1) (hi := 1) 1 (by decide) (by decide)) (by decide) (by decide) (by decide) (by decide)
              refine lv_istore_n (lv' := [(3, .int v29), (2, .int y20), (0, .ref (ad 0)), (1, .int x1)]) E.1 E.2.1 dX10_ring_33 rfl hl (by decide) rfl (fun ls hl => ?_)
              have LOOP34 : ∀ n : Nat, ∀ (y32 : Int32) (H : Heap) (locs : List Loc) (ls : Array Slot), mG D A s H locs (wd K ad zz14) → iv 0 61 y32 → 61 < y32.toInt + (n : Int) → lv_has ls 4 [(3, .int y32), (2, .int y20), (0, .ref (ad 0)), (1, .int x1)] → W p l e R s m args below meth c H locs 0 0 Q (F0 m 34 ls []) := by
                intro n
                induction n with
                | zero =>
                  intro y32 H locs ls G b37 m36 hl
                  exact absurd m36 (by have := b37.1; have := b37.2; omega)
                | succ n ih34 =>
                  intro y32 H locs ls G b37 m36 hl
                  refine lv_iload_n E.1 E.2.1 dX10_ring_34 rfl (lv_at hl 0 rfl) ?_
                  refine lv_bipush (v := 60) E.1 E.2.1 dX10_ring_35 (by decide) ?_
                  refine lv_icmp_gt (tgt := 84) E.1 E.2.1 dX10_ring_37 (by decide) (fun c38 => ?_) (fun c38 => ?_)
                  · skip
                    have b39 : iv 61 61 y32 := lt_r c38 (iv_lit (lo := 60) (hi := 60) 60 (by decide) (by decide)) b37 (by decide)
                    obtain ⟨v40, e41⟩ : ∃ w : Int32, w = y20 + (1 : Int32) := ⟨_, rfl⟩
                    refine lv_iinc (v := v40) (lv' := [(2, .int v40), (3, .int y32), (0, .ref (ad 0)), (1, .int x1)]) E.1 E.2.1 dX10_ring_84 hl (k := 1) rfl (by rw [e41]; rfl) (by decide) rfl (fun ls hl => ?_)
                    have b42 : iv 1 60 v40 := by rw [e41]; exact iv_add b28 (iv_lit (lo := 1) (hi := 1) 1 (by decide) (by decide)) (by decide) (by decide) (by decide) (by decide)
                    have t43 : v40.toInt = y20.toInt + 1 := by rw [e41]; exact ti_addc 1 (by decide) b28 (by decide) (by decide)
                    refine lv_goto (tgt := 24) E.1 E.2.1 dX10_ring_87 (by decide) ?_
                    exact ih24 v40 H locs ls G (iv_mono b42 (by decide) (by decide)) (by have := t43; have := m24; omega) (lv_sub hl [0, 2, 3] rfl)
                  · skip
                    have b44 : iv 0 60 y32 := le_l (Int32.not_lt.mp c38) b37 (iv_lit (lo := 60) (hi := 60) 60 (by decide) (by decide)) (by decide)
                    refine lv_aload_n E.1 E.2.1 dX10_ring_40 rfl (lv_at hl 2 rfl) ?_
                    refine t_get E G 10 14 (rfl : ro 0 = 10) (C := RX10) (T := TX10) (N := 17) rfl (by decide) (by decide) (by decide) mw_fl_10_91 (v := .ref (ad 343)) (fvl_o (n := 343) rfl) dX10_ring_41 ?_
                    refine lv_iload_n E.1 E.2.1 dX10_ring_44 rfl (lv_at hl 1 rfl) ?_
                    refine t_iald E G 43 (rfl : ro 343 = 43) (by decide) (by decide) rfl (n := 61) rfl (iv_vp b28 (by decide) (by decide)) dX10_ring_45 ?_
                    refine lv_topi (fun v45 e46 => ?_)
                    refine lv_aload_n E.1 E.2.1 dX10_ring_46 rfl (lv_at hl 2 rfl) ?_
                    refine t_get E G 10 14 (rfl : ro 0 = 10) (C := RX10) (T := TX10) (N := 17) rfl (by decide) (by decide) (by decide) mw_fl_10_91 (v := .ref (ad 343)) (fvl_o (n := 343) rfl) dX10_ring_47 ?_
                    refine lv_iload_n E.1 E.2.1 dX10_ring_50 rfl (lv_at hl 0 rfl) ?_
                    refine t_iald E G 43 (rfl : ro 343 = 43) (by decide) (by decide) rfl (n := 61) rfl (iv_vp b44 (by decide) (by decide)) dX10_ring_51 ?_
                    refine lv_topi (fun v47 e48 => ?_)
                    refine lv_icmp_ne (tgt := 78) E.1 E.2.1 dX10_ring_52 (by decide) (fun c49 => ?_) (fun c49 => ?_)
                    · skip
                      obtain ⟨v50, e51⟩ : ∃ w : Int32, w = y32 + (1 : Int32) := ⟨_, rfl⟩
                      refine lv_iinc (v := v50) (lv' := [(3, .int v50), (2, .int y20), (0, .ref (ad 0)), (1, .int x1)]) E.1 E.2.1 dX10_ring_78 hl (k := 0) rfl (by rw [e51]; rfl) (by decide) rfl (fun ls hl => ?_)
                      have b52 : iv 1 61 v50 := by rw [e51]; exact iv_add b44 (iv_lit (lo := 1) (hi := 1) 1 (by decide) (by decide)) (by decide) (by decide) (by decide) (by decide)
                      have t53 : v50.toInt = y32.toInt + 1 := by rw [e51]; exact ti_addc 1 (by decide) b44 (by decide) (by decide)
                      refine lv_goto (tgt := 34) E.1 E.2.1 dX10_ring_81 (by decide) ?_
                      exact ih34 v50 H locs ls G (iv_mono b52 (by decide) (by decide)) (by have := t53; have := m36; omega) (lv_sub hl [0, 1, 2, 3] rfl)
                    · skip
                      refine lv_iload_n E.1 E.2.1 dX10_ring_55 rfl (lv_at hl 3 rfl) ?_
                      refine lv_if_ne (tgt := 74) E.1 E.2.1 dX10_ring_56 (by decide) (fun c54 => ?_) (fun c54 => ?_)
                      · skip
                        have b55 : iv 1 1 x1 := ne_lo c54 b13 (by decide) (by decide)
                        refine lv_iload_n E.1 E.2.1 dX10_ring_74 rfl (lv_at hl 0 rfl) ?_
                        refine lv_iload_n E.1 E.2.1 dX10_ring_75 rfl (lv_at hl 1 rfl) ?_
                        refine lv_isub E.1 E.2.1 dX10_ring_76 ?_
                        refine lv_topi (fun v56 e57 => ?_)
                        have b58 : iv (-59) 60 v56 := by rw [e57]; exact iv_sub b44 b28 (by decide) (by decide) (by decide) (by decide)
                        exact RET G ⟨oo17, kk19⟩ rfl dX10_ring_77
                      · skip
                        have b59 : iv 0 0 x1 := iv_eq c54 (iv_lit (lo := 0) (hi := 0) 0 (by decide) (by decide))
                        refine lv_aload_n E.1 E.2.1 dX10_ring_59 rfl (lv_at hl 2 rfl) ?_
                        refine t_get E G 10 7 (rfl : ro 0 = 10) (C := RX10) (T := TX10) (N := 17) rfl (by decide) (by decide) (by decide) mw_fl_10_55 (v := .ref (ad 56)) (fvl_o (n := 56) rfl) dX10_ring_60 ?_
                        refine t_get E G 2 1 (rfl : ro 56 = 2) (C := RX2) (T := TX2) (N := 5) rfl (by decide) (by decide) (by decide) mw_fl_10_121 (v := .ref (ad 70)) (fvl_o (n := 14) rfl) dX10_ring_63 ?_
                        refine t_get E G 6 7 (rfl : ro 70 = 6) (C := RX6) (T := TX6) (N := 8) rfl (by decide) (by decide) (by decide) mw_fl_10_201 (fvl_i rfl) dX10_ring_66 ?_
                        refine lv_topi (fun v60 e61 => ?_)
                        refine lv_iload_n E.1 E.2.1 dX10_ring_69 rfl (lv_at hl 1 rfl) ?_
                        refine lv_iadd E.1 E.2.1 dX10_ring_70 ?_
                        refine lv_topi (fun v62 e63 => ?_)
                        refine lv_goto (tgt := 77) E.1 E.2.1 dX10_ring_71 (by decide) ?_
                        exact RET G ⟨oo17, kk19⟩ rfl dX10_ring_77
              exact LOOP34 62 v29 H locs ls G (iv_mono b31 (by decide) (by decide)) (by have := b31.1; omega) (lv_sub hl [0, 1, 2, 3] rfl)
        exact LOOP24 61 0 H locs ls G (iv_mono (iv_lit (lo := 0) (hi := 0) 0 (by decide) (by decide)) (by decide) (by decide)) (by have := (iv_lit (lo := 0) (hi := 0) 0 (by decide) (by decide)).1; omega) (lv_sub hl [0, 1, 2] rfl)
      · skip
        have b64 : iv 2 2147483647 x1 := lt_r (Int32.not_le.mp c12) (iv_lit (lo := 1) (hi := 1) 1 (by decide) (by decide)) b11 (by decide)
        refine lv_iconst (v := (-1)) E.1 E.2.1 dX10_ring_16 (by decide) ?_
        exact RET G ⟨o, KC.rf⟩ rfl dX10_ring_17
set_option maxHeartbeats 4000000 in
set_option maxRecDepth 100000 in
theorem k_nights (l : Launch) (D : va_G) (K : Nat → ClassId) (ad : Nat → Nat) (z : TS) (o : Ok z) (x1 : Int32) (x2 : Int32) (x3 : Int32) (x4 : Int32) : cI l yX10_nights cX10_nights 9 .int ({ frames := 6, cells := 0, slots := 0, locals := 150 }) D K ad z [.ref (ad 0), .int x1, .int x2, .int x3, .int x4] (fun r u => Ok u ∧ KC z u) := by
  refine t_enterI (by decide) (Nat.le_of_ble_eq_true rfl) rfl rfl ?_
  intro p e s m args below meth c A R Q H locs ls E hfr hlo RET G hl
  have E : mE p s m meth c cX10_nights args 9 RX10 D K A := E
  have hl : lv_has ls 9 [(0, .ref (ad 0)), (1, .int x1), (2, .int x2), (3, .int x3), (4, .int x4)] := hl
  refine lv_aload_n E.1 E.2.1 dX10_nights_0 rfl (lv_at hl 0 rfl) ?_
  refine t_vi E G hl (h_town l D K ad z o) 10 (rfl : ro 0 = 10) (by decide) rfl rfl 0 rfl mw_code_X10_hasTown mw_ini_10 mw_ml_10_219 mw_inst_X10_hasTown mw_sel_X10_hasTown hd_X10_hasTown ⟨Nat.le_trans (by decide) hfr, Nat.le_trans (by decide) hlo⟩ rfl rfl rfl (Nat.le_of_ble_eq_true rfl) dX10_nights_1 (fun r2 zz1 H locs hp3 G => ?_)
  obtain ⟨hz5, b4⟩ := hp3
  rw [hz5] at G
  refine lv_if_eq (tgt := 29) E.1 E.2.1 dX10_nights_4 (by decide) (fun c6 => ?_) (fun c6 => ?_)
  · skip
    have b7 : iv 0 0 r2 := iv_eq c6 (iv_lit (lo := 0) (hi := 0) 0 (by decide) (by decide))
    refine lv_iconst (v := (-1)) E.1 E.2.1 dX10_nights_29 (by decide) ?_
    exact RET G ⟨o, KC.rf⟩ rfl dX10_nights_30
  · skip
    have b8 : iv 1 1 r2 := ne_lo c6 b4 (by decide) (by decide)
    refine lv_iload_n E.1 E.2.1 dX10_nights_7 rfl (lv_at hl 1 rfl) ?_
    refine lv_iconst (v := 1) E.1 E.2.1 dX10_nights_8 (by decide) ?_
    refine lv_icmp_lt (tgt := 29) E.1 E.2.1 dX10_nights_9 (by decide) (fun c9 => ?_) (fun c9 => ?_)
    · skip
      have b10 : iv (-2147483648) 0 x1 := lt_l c9 (iv_full x1) (iv_lit (lo := 1) (hi := 1) 1 (by decide) (by decide)) (by decide)
      refine lv_iconst (v := (-1)) E.1 E.2.1 dX10_nights_29 (by decide) ?_
      exact RET G ⟨o, KC.rf⟩ rfl dX10_nights_30
    · skip
      have b11 : iv 1 2147483647 x1 := le_r (Int32.not_lt.mp c9) (iv_lit (lo := 1) (hi := 1) 1 (by decide) (by decide)) (iv_full x1) (by decide)
      refine lv_iload_n E.1 E.2.1 dX10_nights_12 rfl (lv_at hl 1 rfl) ?_
      refine lv_bipush (v := 10) E.1 E.2.1 dX10_nights_13 (by decide) ?_
      refine lv_icmp_gt (tgt := 29) E.1 E.2.1 dX10_nights_15 (by decide) (fun c12 => ?_) (fun c12 => ?_)
      · skip
        have b13 : iv 11 2147483647 x1 := lt_r c12 (iv_lit (lo := 10) (hi := 10) 10 (by decide) (by decide)) b11 (by decide)
        refine lv_iconst (v := (-1)) E.1 E.2.1 dX10_nights_29 (by decide) ?_
        exact RET G ⟨o, KC.rf⟩ rfl dX10_nights_30
      · skip
        have b14 : iv 1 10 x1 := le_l (Int32.not_lt.mp c12) b11 (iv_lit (lo := 10) (hi := 10) 10 (by decide) (by decide)) (by decide)
        refine lv_iload_n E.1 E.2.1 dX10_nights_18 rfl (lv_at hl 2 rfl) ?_
        refine lv_iconst (v := 1) E.1 E.2.1 dX10_nights_19 (by decide) ?_
        refine lv_icmp_lt (tgt := 29) E.1 E.2.1 dX10_nights_20 (by decide) (fun c15 => ?_) (fun c15 => ?_)
        · skip
          have b16 : iv (-2147483648) 0 x2 := lt_l c15 (iv_full x2) (iv_lit (lo := 1) (hi := 1) 1 (by decide) (by decide)) (by decide)
          refine lv_iconst (v := (-1)) E.1 E.2.1 dX10_nights_29 (by decide) ?_
          exact RET G ⟨o, KC.rf⟩ rfl dX10_nights_30
        · skip
          have b17 : iv 1 2147483647 x2 := le_r (Int32.not_lt.mp c15) (iv_lit (lo := 1) (hi := 1) 1 (by decide) (by decide)) (iv_full x2) (by decide)
          refine lv_iload_n E.1 E.2.1 dX10_nights_23 rfl (lv_at hl 2 rfl) ?_
          refine lv_bipush (v := 60) E.1 E.2.1 dX10_nights_24 (by decide) ?_
          refine lv_icmp_le (tgt := 31) E.1 E.2.1 dX10_nights_26 (by decide) (fun c18 => ?_) (fun c18 => ?_)
          · skip
            have b19 : iv 1 60 x2 := le_l c18 b17 (iv_lit (lo := 60) (hi := 60) 60 (by decide) (by decide)) (by decide)
            refine lv_iload_n E.1 E.2.1 dX10_nights_31 rfl (lv_at hl 3 rfl) ?_
            refine lv_if_lt (tgt := 52) E.1 E.2.1 dX10_nights_32 (by decide) (fun c20 => ?_) (fun c20 => ?_)
            · skip
              have b21 : iv (-2147483648) (-1) x3 := lt_l c20 (iv_full x3) (iv_lit (lo := 0) (hi := 0) 0 (by decide) (by decide)) (by decide)
              refine lv_iconst (v := (-1)) E.1 E.2.1 dX10_nights_52 (by decide) ?_
              exact RET G ⟨o, KC.rf⟩ rfl dX10_nights_53
            · skip
              have b22 : iv 0 2147483647 x3 := le_r (Int32.not_lt.mp c20) (iv_lit (lo := 0) (hi := 0) 0 (by decide) (by decide)) (iv_full x3) (by decide)
              refine lv_iload_n E.1 E.2.1 dX10_nights_35 rfl (lv_at hl 3 rfl) ?_
              refine lv_bipush (v := 100) E.1 E.2.1 dX10_nights_36 (by decide) ?_
              refine lv_icmp_gt (tgt := 52) E.1 E.2.1 dX10_nights_38 (by decide) (fun c23 => ?_) (fun c23 => ?_)
              · skip
                have b24 : iv 101 2147483647 x3 := lt_r c23 (iv_lit (lo := 100) (hi := 100) 100 (by decide) (by decide)) b22 (by decide)
                refine lv_iconst (v := (-1)) E.1 E.2.1 dX10_nights_52 (by decide) ?_
                exact RET G ⟨o, KC.rf⟩ rfl dX10_nights_53
              · skip
                have b25 : iv 0 100 x3 := le_l (Int32.not_lt.mp c23) b22 (iv_lit (lo := 100) (hi := 100) 100 (by decide) (by decide)) (by decide)
                refine lv_iload E.1 E.2.1 dX10_nights_41 (lv_at hl 4 rfl) ?_
                refine lv_if_lt (tgt := 52) E.1 E.2.1 dX10_nights_43 (by decide) (fun c26 => ?_) (fun c26 => ?_)
                · skip
                  have b27 : iv (-2147483648) (-1) x4 := lt_l c26 (iv_full x4) (iv_lit (lo := 0) (hi := 0) 0 (by decide) (by decide)) (by decide)
                  refine lv_iconst (v := (-1)) E.1 E.2.1 dX10_nights_52 (by decide) ?_
                  exact RET G ⟨o, KC.rf⟩ rfl dX10_nights_53
                · skip
                  have b28 : iv 0 2147483647 x4 := le_r (Int32.not_lt.mp c26) (iv_lit (lo := 0) (hi := 0) 0 (by decide) (by decide)) (iv_full x4) (by decide)
                  refine lv_iload E.1 E.2.1 dX10_nights_46 (lv_at hl 4 rfl) ?_
                  refine lv_iconst (v := 1) E.1 E.2.1 dX10_nights_48 (by decide) ?_
                  refine lv_icmp_le (tgt := 54) E.1 E.2.1 dX10_nights_49 (by decide) (fun c29 => ?_) (fun c29 => ?_)
                  · skip
                    have b30 : iv 0 1 x4 := le_l c29 b28 (iv_lit (lo := 1) (hi := 1) 1 (by decide) (by decide)) (by decide)
                    refine lv_iconst (v := 0) E.1 E.2.1 dX10_nights_54 (by decide) ?_
                    refine lv_istore (lv' := [(5, .int 0), (0, .ref (ad 0)), (1, .int x1), (2, .int x2), (3, .int x3), (4, .int x4)]) E.1 E.2.1 dX10_nights_55 hl (by decide) rfl (fun ls hl => ?_)
                    refine lv_aload_n E.1 E.2.1 dX10_nights_57 rfl (lv_at hl 1 rfl) ?_
                    refine t_get E G 10 7 (rfl : ro 0 = 10) (C := RX10) (T := TX10) (N := 17) rfl (by decide) (by decide) (by decide) mw_fl_10_55 (v := .ref (ad 56)) (fvl_o (n := 56) rfl) dX10_nights_58 ?_
                    refine t_get E G 2 4 (rfl : ro 56 = 2) (C := RX2) (T := TX2) (N := 5) rfl (by decide) (by decide) (by decide) mw_fl_10_216 (fvl_i rfl) dX10_nights_61 ?_
                    refine lv_topi (fun v31 e32 => ?_)
                    have b33 : iv 0 2147483647 v31 := by rw [e32]; exact o.i 2 4 (rfl : ro 56 = 2)
                    refine lv_i2l E.1 E.2.1 dX10_nights_64 rfl ?_
                    refine lv_topl (fun v34 e35 => ?_)
                    refine lv_lstore (lv' := [(6, .long v34), (5, .int 0), (0, .ref (ad 0)), (1, .int x1), (2, .int x2), (3, .int x3), (4, .int x4)]) E.1 E.2.1 dX10_nights_65 hl (by decide) rfl (fun ls hl => ?_)
                    refine lv_iconst (v := 0) E.1 E.2.1 dX10_nights_67 (by decide) ?_
                    refine lv_istore (lv' := [(8, .int 0), (6, .long v34), (5, .int 0), (0, .ref (ad 0)), (1, .int x1), (2, .int x2), (3, .int x3), (4, .int x4)]) E.1 E.2.1 dX10_nights_68 hl (by decide) rfl (fun ls hl => ?_)
                    have LOOP70 : ∀ n : Nat, ∀ (zz39 : TS) (y36 : Int32) (y37 : Int64) (y38 : Int32) (H : Heap) (locs : List Loc) (ls : Array Slot), mG D A s H locs (wd K ad zz39) → Ok zz39 → KC z zz39 → iv 0 10 y36 → 10 < y36.toInt + (n : Int) → lv_has ls 9 [(8, .int y36), (6, .long y37), (5, .int y38), (0, .ref (ad 0)), (1, .int x1), (2, .int x2), (3, .int x3), (4, .int x4)] → W p l e R s m args below meth c H locs 0 0 Q (F0 m 70 ls []) := by
                      intro n
                      induction n with
                      | zero =>
                        intro zz39 y36 y37 y38 H locs ls G oo40 kk41 b43 m42 hl
                        exact absurd m42 (by have := b43.1; have := b43.2; omega)
                      | succ n ih70 =>
                        intro zz39 y36 y37 y38 H locs ls G oo40 kk41 b43 m42 hl
                        refine lv_iload E.1 E.2.1 dX10_nights_70 (lv_at hl 0 rfl) ?_
                        refine lv_iload_n E.1 E.2.1 dX10_nights_72 rfl (lv_at hl 4 rfl) ?_
                        refine lv_icmp_ge (tgt := 142) E.1 E.2.1 dX10_nights_73 (by decide) (fun c44 => ?_) (fun c44 => ?_)
                        · skip
                          have b45 : iv 1 10 y36 := le_r c44 b14 b43 (by decide)
                          refine lv_iload E.1 E.2.1 dX10_nights_142 (lv_at hl 2 rfl) ?_
                          exact RET G ⟨oo40, kk41⟩ rfl dX10_nights_144
                        · skip
                          have b46 : iv 0 9 y36 := lt_l (Int32.not_le.mp c44) b43 b14 (by decide)
                          refine lv_aload_n E.1 E.2.1 dX10_nights_76 rfl (lv_at hl 3 rfl) ?_
                          refine t_vv E G hl (k_startNow l D K ad zz39 oo40) 10 (rfl : ro 0 = 10) (by decide) rfl rfl 0 rfl mw_code_X10_startNow mw_ini_10 mw_ml_10_226 mw_inst_X10_startNow mw_sel_X10_startNow hd_X10_startNow ⟨Nat.le_trans (by decide) hfr, Nat.le_trans (by decide) hlo⟩ rfl rfl rfl (Nat.le_of_ble_eq_true rfl) dX10_nights_77 (fun zz47 H locs hp49 G => ?_)
                          obtain ⟨oo50, kk51⟩ := hp49
                          have kk52 : KC z zz47 := KC.tr kk41 kk51
                          refine lv_aload_n E.1 E.2.1 dX10_nights_80 rfl (lv_at hl 3 rfl) ?_
                          refine lv_iload_n E.1 E.2.1 dX10_nights_81 rfl (lv_at hl 5 rfl) ?_
                          refine lv_iload_n E.1 E.2.1 dX10_nights_82 rfl (lv_at hl 6 rfl) ?_
                          refine lv_lload E.1 E.2.1 dX10_nights_83 (lv_at hl 1 rfl) ?_
                          refine t_vl E G hl (k_goDrawn l D K ad zz47 oo50 x2 (iv_mono b19 (by decide) (by decide)) x3 y37) 10 (rfl : ro 0 = 10) (by decide) rfl rfl 3 rfl mw_code_X10_goDrawn mw_ini_10 mw_ml_10_254 mw_inst_X10_goDrawn mw_sel_X10_goDrawn hd_X10_goDrawn ⟨Nat.le_trans (by decide) hfr, Nat.le_trans (by decide) hlo⟩ rfl rfl rfl (Nat.le_of_ble_eq_true rfl) dX10_nights_85 (fun r54 zz53 H locs hp55 G => ?_)
                          obtain ⟨oo56, kk57⟩ := hp55
                          have kk58 : KC z zz53 := KC.tr kk52 kk57
                          refine lv_lstore (lv' := [(6, .long r54), (8, .int y36), (5, .int y38), (0, .ref (ad 0)), (1, .int x1), (2, .int x2), (3, .int x3), (4, .int x4)]) E.1 E.2.1 dX10_nights_88 hl (by decide) rfl (fun ls hl => ?_)
                          refine lv_iload E.1 E.2.1 dX10_nights_90 (lv_at hl 2 rfl) ?_
                          refine lv_iload E.1 E.2.1 dX10_nights_92 (lv_at hl 7 rfl) ?_
                          refine lv_if_ne (tgt := 120) E.1 E.2.1 dX10_nights_94 (by decide) (fun c59 => ?_) (fun c59 => ?_)
                          · skip
                            have b60 : iv 1 1 x4 := ne_lo c59 b30 (by decide) (by decide)
                            refine lv_aload_n E.1 E.2.1 dX10_nights_120 rfl (lv_at hl 3 rfl) ?_
                            refine t_get E G 10 11 (rfl : ro 0 = 10) (C := RX10) (T := TX10) (N := 17) rfl (by decide) (by decide) (by decide) mw_fl_10_76 (v := .ref (ad 324)) (fvl_o (n := 324) rfl) dX10_nights_121 ?_
                            refine t_get E G 1 0 (rfl : ro 324 = 1) (C := RX1) (T := TX1) (N := 6) rfl (by decide) (by decide) (by decide) mw_fl_10_232 (v := .ref (ad 325)) (fvl_o (n := 1) rfl) dX10_nights_124 ?_
                            refine t_get E G 6 6 (rfl : ro 325 = 6) (C := RX6) (T := TX6) (N := 8) rfl (by decide) (by decide) (by decide) mw_fl_10_204 (fvl_i rfl) dX10_nights_127 ?_
                            refine lv_topi (fun v61 e62 => ?_)
                            refine t_si E G hl (j_bitCount l D K ad zz53 oo56 v61) 1 rfl mw_code_J6_bitCount_0f7a4 mw_ini_J6 mw_ml_10_258 mw_stat_J6_bitCount_0f7a4 hd_J6_bitCount_0f7a4 ⟨Nat.le_trans (by decide) hfr, Nat.le_trans (by decide) hlo⟩ rfl rfl rfl (Nat.le_of_ble_eq_true rfl) dX10_nights_130 (fun r64 zz63 H locs hp65 G => ?_)
                            have hz66 := hp65
                            rw [hz66] at G
                            refine lv_iadd E.1 E.2.1 dX10_nights_133 ?_
                            refine lv_topi (fun v67 e68 => ?_)
                            refine lv_istore (lv' := [(5, .int v67), (6, .long r54), (8, .int y36), (0, .ref (ad 0)), (1, .int x1), (2, .int x2), (3, .int x3), (4, .int x4)]) E.1 E.2.1 dX10_nights_134 hl (by decide) rfl (fun ls hl => ?_)
                            obtain ⟨v69, e70⟩ : ∃ w : Int32, w = y36 + (1 : Int32) := ⟨_, rfl⟩
                            refine lv_iinc (v := v69) (lv' := [(8, .int v69), (5, .int v67), (6, .long r54), (0, .ref (ad 0)), (1, .int x1), (2, .int x2), (3, .int x3), (4, .int x4)]) E.1 E.2.1 dX10_nights_136 hl (k := 2) rfl (by rw [e70]; rfl) (by decide) rfl (fun ls hl => ?_)
                            have b71 : iv 1 10 v69 := by rw [e70]; exact iv_add b46 (iv_lit (lo := 1) (hi := 1) 1 (by decide) (by decide)) (by decide) (by decide) (by decide) (by decide)
                            have t72 : v69.toInt = y36.toInt + 1 := by rw [e70]; exact ti_addc 1 (by decide) b46 (by decide) (by decide)
                            refine lv_goto (tgt := 70) E.1 E.2.1 dX10_nights_139 (by decide) ?_
                            exact ih70 zz53 v69 r54 v67 H locs ls G oo56 kk58 (iv_mono b71 (by decide) (by decide)) (by have := t72; have := m42; omega) (lv_sub hl [0, 2, 1, 3, 4, 5, 6, 7] rfl)
                          · skip
                            have b73 : iv 0 0 x4 := iv_eq c59 (iv_lit (lo := 0) (hi := 0) 0 (by decide) (by decide))
                            refine lv_aload_n E.1 E.2.1 dX10_nights_97 rfl (lv_at hl 3 rfl) ?_
                            refine t_get E G 10 11 (rfl : ro 0 = 10) (C := RX10) (T := TX10) (N := 17) rfl (by decide) (by decide) (by decide) mw_fl_10_76 (v := .ref (ad 324)) (fvl_o (n := 324) rfl) dX10_nights_98 ?_
                            refine t_get E G 1 0 (rfl : ro 324 = 1) (C := RX1) (T := TX1) (N := 6) rfl (by decide) (by decide) (by decide) mw_fl_10_232 (v := .ref (ad 325)) (fvl_o (n := 1) rfl) dX10_nights_101 ?_
                            refine lv_aload_n E.1 E.2.1 dX10_nights_104 rfl (lv_at hl 3 rfl) ?_
                            refine t_get E G 10 7 (rfl : ro 0 = 10) (C := RX10) (T := TX10) (N := 17) rfl (by decide) (by decide) (by decide) mw_fl_10_55 (v := .ref (ad 56)) (fvl_o (n := 56) rfl) dX10_nights_105 ?_
                            refine t_get E G 2 0 (rfl : ro 56 = 2) (C := RX2) (T := TX2) (N := 5) rfl (by decide) (by decide) (by decide) mw_fl_10_114 (v := .ref (ad 57)) (fvl_o (n := 1) rfl) dX10_nights_108 ?_
                            refine t_get E G 8 3 (rfl : ro 57 = 8) (C := RX8) (T := TX8) (N := 10) rfl (by decide) (by decide) (by decide) mw_fl_10_140 (fvl_i rfl) dX10_nights_111 ?_
                            refine lv_topi (fun v74 e75 => ?_)
                            have b76 : iv 0 5 v74 := by rw [e75]; exact oo56.i 8 3 (rfl : ro 57 = 8)
                            refine t_vi E G hl (s_all l D K ad zz53 oo56 325 (by decide : at_ 6 325 = true) v74 (iv_mono b76 (by decide) (by decide))) 6 (rfl : ro 325 = 6) (by decide) rfl rfl 1 rfl mw_code_X6_allCharges mw_ini_6 mw_ml_10_211 mw_inst_X6_allCharges mw_sel_X6_allCharges hd_X6_allCharges ⟨Nat.le_trans (by decide) hfr, Nat.le_trans (by decide) hlo⟩ rfl rfl rfl (Nat.le_of_ble_eq_true rfl) dX10_nights_114 (fun r78 zz77 H locs hp79 G => ?_)
                            have hz80 := hp79
                            rw [hz80] at G
                            refine lv_goto (tgt := 133) E.1 E.2.1 dX10_nights_117 (by decide) ?_
                            refine lv_iadd E.1 E.2.1 dX10_nights_133 ?_
                            refine lv_topi (fun v81 e82 => ?_)
                            refine lv_istore (lv' := [(5, .int v81), (6, .long r54), (8, .int y36), (0, .ref (ad 0)), (1, .int x1), (2, .int x2), (3, .int x3), (4, .int x4)]) E.1 E.2.1 dX10_nights_134 hl (by decide) rfl (fun ls hl => ?_)
                            obtain ⟨v83, e84⟩ : ∃ w : Int32, w = y36 + (1 : Int32) := ⟨_, rfl⟩
                            refine lv_iinc (v := v83) (lv' := [(8, .int v83), (5, .int v81), (6, .long r54), (0, .ref (ad 0)), (1, .int x1), (2, .int x2), (3, .int x3), (4, .int x4)]) E.1 E.2.1 dX10_nights_136 hl (k := 2) rfl (by rw [e84]; rfl) (by decide) rfl (fun ls hl => ?_)
                            have b85 : iv 1 10 v83 := by rw [e84]; exact iv_add b46 (iv_lit (lo := 1) (hi := 1) 1 (by decide) (by decide)) (by decide) (by decide) (by decide) (by decide)
                            have t86 : v83.toInt = y36.toInt + 1 := by rw [e84]; exact ti_addc 1 (by decide) b46 (by decide) (by decide)
                            refine lv_goto (tgt := 70) E.1 E.2.1 dX10_nights_139 (by decide) ?_
                            exact ih70 zz53 v83 r54 v81 H locs ls G oo56 kk58 (iv_mono b85 (by decide) (by decide)) (by have := t86; have := m42; omega) (lv_sub hl [0, 2, 1, 3, 4, 5, 6, 7] rfl)
                    exact LOOP70 11 z 0 v34 0 H locs ls G o KC.rf (iv_mono (iv_lit (lo := 0) (hi := 0) 0 (by decide) (by decide)) (by decide) (by decide)) (by have := (iv_lit (lo := 0) (hi := 0) 0 (by decide) (by decide)).1; omega) (lv_sub hl [0, 1, 2, 3, 4, 5, 6, 7] rfl)
                  · skip
                    have b87 : iv 2 2147483647 x4 := lt_r (Int32.not_le.mp c29) (iv_lit (lo := 1) (hi := 1) 1 (by decide) (by decide)) b28 (by decide)
                    refine lv_iconst (v := (-1)) E.1 E.2.1 dX10_nights_52 (by decide) ?_
                    exact RET G ⟨o, KC.rf⟩ rfl dX10_nights_53
          · skip
            have b88 : iv 61 2147483647 x2 := lt_r (Int32.not_le.mp c18) (iv_lit (lo := 60) (hi := 60) 60 (by decide) (by decide)) b17 (by decide)
            refine lv_iconst (v := (-1)) E.1 E.2.1 dX10_nights_29 (by decide) ?_
            exact RET G ⟨o, KC.rf⟩ rfl dX10_nights_30
