theorem mw_cL_10_271 : (Cond.constantLong RX10 271 (1103515245) : Cond) ∈ cw := cw_of (List.mem_append_right _ (List.mem_append_right _ (List.mem_append_right _ (List.mem_append_right _ (List.mem_append_left _ (List.mem_of_getElem? (i := 202) (by decide +kernel))))))) (by decide +kernel)
theorem mw_cL_10_273 : (Cond.constantLong RX10 273 (12345) : Cond) ∈ cw := cw_of (List.mem_append_right _ (List.mem_append_right _ (List.mem_append_right _ (List.mem_append_right _ (List.mem_append_left _ (List.mem_of_getElem? (i := 203) (by decide +kernel))))))) (by decide +kernel)
theorem mw_cL_10_275 : (Cond.constantLong RX10 275 (2147483648) : Cond) ∈ cw := cw_of (List.mem_append_right _ (List.mem_append_right _ (List.mem_append_right _ (List.mem_append_right _ (List.mem_append_left _ (List.mem_of_getElem? (i := 204) (by decide +kernel))))))) (by decide +kernel)
theorem mw_code_J6_bitCount_0f7a4 : (Cond.code yJ6_bitCount_0f7a4 cJ6_bitCount_0f7a4 1 (some .int) : Cond) ∈ cw := cw_of (List.mem_append_right _ (List.mem_append_right _ (List.mem_append_right _ (List.mem_append_right _ (List.mem_append_left _ (List.mem_of_getElem? (i := 209) rfl)))))) (by decide +kernel)
theorem mw_code_X10_hasTown : (Cond.code yX10_hasTown cX10_hasTown 1 (some .boolean) : Cond) ∈ cw := cw_of (List.mem_append_right _ (List.mem_append_right _ (List.mem_append_right _ (List.mem_append_right _ (List.mem_append_left _ (List.mem_of_getElem? (i := 58) rfl)))))) (by decide +kernel)
theorem mw_code_X10_inForce : (Cond.code yX10_inForce cX10_inForce 1 (some (.object "LureTown$Rule")) : Cond) ∈ cw := cw_of (List.mem_append_right _ (List.mem_append_right _ (List.mem_append_right _ (List.mem_append_right _ (List.mem_append_left _ (List.mem_of_getElem? (i := 72) rfl)))))) (by decide +kernel)
theorem mw_code_X1_start : (Cond.code yX1_start cX1_start 4 none : Cond) ∈ cw := cw_of (List.mem_append_right _ (List.mem_append_right _ (List.mem_append_right _ (List.mem_append_right _ (List.mem_append_left _ (List.mem_of_getElem? (i := 80) rfl)))))) (by decide +kernel)
theorem mw_code_X8_holdsAllWays : (Cond.code yX8_holdsAllWays cX8_holdsAllWays 3 (some .boolean) : Cond) ∈ cw := cw_of (List.mem_append_right _ (List.mem_append_right _ (List.mem_append_right _ (List.mem_append_right _ (List.mem_append_left _ (List.mem_of_getElem? (i := 239) rfl)))))) (by decide +kernel)
theorem mw_fl_10_76 : (Cond.fieldLink RX10 76 "LureTown" "course" "LLureTown$Course;" : Cond) ∈ cw := cw_of (List.mem_append_right _ (List.mem_append_right _ (List.mem_append_left _ (List.mem_of_getElem? (i := 139) (by decide +kernel))))) (by decide +kernel)
theorem mw_ini_J6 : (Cond.initialized RJ6 : Cond) ∈ cw := cw_of (List.mem_append_right _ (List.mem_append_left _ (List.mem_of_getElem? (i := 20) (by decide +kernel)))) (by decide +kernel)
theorem mw_inst_X10_hasTown : (Cond.instanceMethod yX10_hasTown : Cond) ∈ cw := cw_of (List.mem_append_right _ (List.mem_append_right _ (List.mem_append_right _ (List.mem_append_right _ (List.mem_append_left _ (List.mem_of_getElem? (i := 57) (by decide +kernel))))))) (by decide +kernel)
theorem mw_inst_X10_inForce : (Cond.instanceMethod yX10_inForce : Cond) ∈ cw := cw_of (List.mem_append_right _ (List.mem_append_right _ (List.mem_append_right _ (List.mem_append_right _ (List.mem_append_left _ (List.mem_of_getElem? (i := 71) (by decide +kernel))))))) (by decide +kernel)
theorem mw_inst_X1_start : (Cond.instanceMethod yX1_start : Cond) ∈ cw := cw_of (List.mem_append_right _ (List.mem_append_right _ (List.mem_append_right _ (List.mem_append_right _ (List.mem_append_left _ (List.mem_of_getElem? (i := 78) (by decide +kernel))))))) (by decide +kernel)
theorem mw_inst_X8_holdsAllWays : (Cond.instanceMethod yX8_holdsAllWays : Cond) ∈ cw := cw_of (List.mem_append_right _ (List.mem_append_right _ (List.mem_append_right _ (List.mem_append_right _ (List.mem_append_left _ (List.mem_of_getElem? (i := 237) (by decide +kernel))))))) (by decide +kernel)
theorem mw_ml_10_219 : (Cond.methodLink RX10 219 yX10_hasTown : Cond) ∈ cw := cw_of (List.mem_append_right _ (List.mem_append_right _ (List.mem_append_right _ (List.mem_append_right _ (List.mem_append_left _ (List.mem_of_getElem? (i := 55) (by decide +kernel))))))) (by decide +kernel)
theorem mw_ml_10_258 : (Cond.methodLink RX10 258 yJ6_bitCount_0f7a4 : Cond) ∈ cw := cw_of (List.mem_append_right _ (List.mem_append_right _ (List.mem_append_right _ (List.mem_append_right _ (List.mem_append_left _ (List.mem_of_getElem? (i := 207) (by decide +kernel))))))) (by decide +kernel)
theorem mw_ml_10_281 : (Cond.methodLink RX10 281 yX8_lureThatHas : Cond) ∈ cw := cw_of (List.mem_append_right _ (List.mem_append_right _ (List.mem_append_right _ (List.mem_append_right _ (List.mem_append_left _ (List.mem_of_getElem? (i := 226) (by decide +kernel))))))) (by decide +kernel)
theorem mw_ml_10_285 : (Cond.methodLink RX10 285 yX8_waysWithin : Cond) ∈ cw := cw_of (List.mem_append_right _ (List.mem_append_right _ (List.mem_append_right _ (List.mem_append_right _ (List.mem_append_left _ (List.mem_of_getElem? (i := 227) (by decide +kernel))))))) (by decide +kernel)
theorem mw_ml_10_289 : (Cond.methodLink RX10 289 yX8_holdsAllWays : Cond) ∈ cw := cw_of (List.mem_append_right _ (List.mem_append_right _ (List.mem_append_right _ (List.mem_append_right _ (List.mem_append_left _ (List.mem_of_getElem? (i := 236) (by decide +kernel))))))) (by decide +kernel)
theorem mw_ml_10_296 : (Cond.methodLink RX10 296 yX10_inForce : Cond) ∈ cw := cw_of (List.mem_append_right _ (List.mem_append_right _ (List.mem_append_right _ (List.mem_append_right _ (List.mem_append_left _ (List.mem_of_getElem? (i := 69) (by decide +kernel))))))) (by decide +kernel)
theorem mw_ml_10_299 : (Cond.methodLink RX10 299 yX1_start : Cond) ∈ cw := cw_of (List.mem_append_right _ (List.mem_append_right _ (List.mem_append_right _ (List.mem_append_right _ (List.mem_append_left _ (List.mem_of_getElem? (i := 77) (by decide +kernel))))))) (by decide +kernel)
theorem mw_sel_X10_hasTown : (Cond.selects RX10 yX10_hasTown yX10_hasTown : Cond) ∈ cw := cw_of (List.mem_append_left _ (List.mem_of_getElem? (i := 26) (by decide +kernel))) (by decide +kernel)
theorem mw_sel_X10_inForce : (Cond.selects RX10 yX10_inForce yX10_inForce : Cond) ∈ cw := cw_of (List.mem_append_left _ (List.mem_of_getElem? (i := 28) (by decide +kernel))) (by decide +kernel)
theorem mw_sel_X1_start : (Cond.selects RX1 yX1_start yX1_start : Cond) ∈ cw := cw_of (List.mem_append_right _ (List.mem_append_right _ (List.mem_append_right _ (List.mem_append_right _ (List.mem_append_left _ (List.mem_of_getElem? (i := 79) (by decide +kernel))))))) (by decide +kernel)
theorem mw_sel_X8_holdsAllWays : (Cond.selects RX8 yX8_holdsAllWays yX8_holdsAllWays : Cond) ∈ cw := cw_of (List.mem_append_right _ (List.mem_append_right _ (List.mem_append_right _ (List.mem_append_right _ (List.mem_append_left _ (List.mem_of_getElem? (i := 238) (by decide +kernel))))))) (by decide +kernel)
theorem mw_stat_J6_bitCount_0f7a4 : (Cond.static yJ6_bitCount_0f7a4 : Cond) ∈ cw := cw_of (List.mem_append_right _ (List.mem_append_right _ (List.mem_append_right _ (List.mem_append_right _ (List.mem_append_left _ (List.mem_of_getElem? (i := 208) (by decide +kernel))))))) (by decide +kernel)
theorem dX10_cover_0 : decode cX10_cover 0 = .ok (.aload_n 0, 1) := by decide +kernel
theorem dX10_cover_1 : decode cX10_cover 1 = .ok (.invokevirtual 219, 3) := by decide +kernel
theorem dX10_cover_4 : decode cX10_cover 4 = .ok (.ifCond .eq 12, 3) := by decide +kernel
theorem dX10_cover_7 : decode cX10_cover 7 = .ok (.iload_n 1, 1) := by decide +kernel
theorem dX10_cover_8 : decode cX10_cover 8 = .ok (.ifCond .lt 8, 3) := by decide +kernel
theorem dX10_cover_11 : decode cX10_cover 11 = .ok (.iload_n 1, 1) := by decide +kernel
theorem dX10_cover_12 : decode cX10_cover 12 = .ok (.iconst 1, 1) := by decide +kernel
theorem dX10_cover_13 : decode cX10_cover 13 = .ok (.if_icmp .le 5, 3) := by decide +kernel
theorem dX10_cover_16 : decode cX10_cover 16 = .ok (.iconst (-1), 1) := by decide +kernel
theorem dX10_cover_17 : decode cX10_cover 17 = .ok (.ireturn, 1) := by decide +kernel
theorem dX10_cover_18 : decode cX10_cover 18 = .ok (.iconst 1, 1) := by decide +kernel
theorem dX10_cover_19 : decode cX10_cover 19 = .ok (.aload_n 0, 1) := by decide +kernel
theorem dX10_cover_20 : decode cX10_cover 20 = .ok (.getfield 55, 3) := by decide +kernel
theorem dX10_cover_23 : decode cX10_cover 23 = .ok (.getfield 114, 3) := by decide +kernel
theorem dX10_cover_26 : decode cX10_cover 26 = .ok (.getfield 192, 3) := by decide +kernel
theorem dX10_cover_29 : decode cX10_cover 29 = .ok (.ishl, 1) := by decide +kernel
theorem dX10_cover_30 : decode cX10_cover 30 = .ok (.iconst 1, 1) := by decide +kernel
theorem dX10_cover_31 : decode cX10_cover 31 = .ok (.isub, 1) := by decide +kernel
theorem dX10_cover_32 : decode cX10_cover 32 = .ok (.istore_n 2, 1) := by decide +kernel
theorem dX10_cover_33 : decode cX10_cover 33 = .ok (.iload_n 2, 1) := by decide +kernel
theorem dX10_cover_34 : decode cX10_cover 34 = .ok (.istore_n 3, 1) := by decide +kernel
theorem dX10_cover_35 : decode cX10_cover 35 = .ok (.iconst 0, 1) := by decide +kernel
theorem dX10_cover_36 : decode cX10_cover 36 = .ok (.istore 4, 2) := by decide +kernel
theorem dX10_cover_38 : decode cX10_cover 38 = .ok (.iload 4, 2) := by decide +kernel
theorem dX10_cover_40 : decode cX10_cover 40 = .ok (.iload_n 2, 1) := by decide +kernel
theorem dX10_cover_41 : decode cX10_cover 41 = .ok (.if_icmp .ge 39, 3) := by decide +kernel
theorem dX10_cover_44 : decode cX10_cover 44 = .ok (.iload 4, 2) := by decide +kernel
theorem dX10_cover_46 : decode cX10_cover 46 = .ok (.invokestatic 258, 3) := by decide +kernel
theorem dX10_cover_49 : decode cX10_cover 49 = .ok (.iload_n 3, 1) := by decide +kernel
theorem dX10_cover_50 : decode cX10_cover 50 = .ok (.invokestatic 258, 3) := by decide +kernel
theorem dX10_cover_53 : decode cX10_cover 53 = .ok (.if_icmp .ge 21, 3) := by decide +kernel
theorem dX10_cover_56 : decode cX10_cover 56 = .ok (.aload_n 0, 1) := by decide +kernel
theorem dX10_cover_57 : decode cX10_cover 57 = .ok (.getfield 55, 3) := by decide +kernel
theorem dX10_cover_60 : decode cX10_cover 60 = .ok (.getfield 114, 3) := by decide +kernel
theorem dX10_cover_63 : decode cX10_cover 63 = .ok (.iload 4, 2) := by decide +kernel
theorem dX10_cover_65 : decode cX10_cover 65 = .ok (.invokevirtual 289, 3) := by decide +kernel
theorem dX10_cover_68 : decode cX10_cover 68 = .ok (.ifCond .eq 6, 3) := by decide +kernel
theorem dX10_cover_71 : decode cX10_cover 71 = .ok (.iload 4, 2) := by decide +kernel
theorem dX10_cover_73 : decode cX10_cover 73 = .ok (.istore_n 3, 1) := by decide +kernel
theorem dX10_cover_74 : decode cX10_cover 74 = .ok (.iinc 4 1, 3) := by decide +kernel
theorem dX10_cover_77 : decode cX10_cover 77 = .ok (.goto (-39), 3) := by decide +kernel
theorem dX10_cover_80 : decode cX10_cover 80 = .ok (.iload_n 1, 1) := by decide +kernel
theorem dX10_cover_81 : decode cX10_cover 81 = .ok (.ifCond .ne 10, 3) := by decide +kernel
theorem dX10_cover_84 : decode cX10_cover 84 = .ok (.iload_n 3, 1) := by decide +kernel
theorem dX10_cover_85 : decode cX10_cover 85 = .ok (.invokestatic 258, 3) := by decide +kernel
theorem dX10_cover_88 : decode cX10_cover 88 = .ok (.goto 4, 3) := by decide +kernel
theorem dX10_cover_91 : decode cX10_cover 91 = .ok (.iload_n 3, 1) := by decide +kernel
theorem dX10_cover_92 : decode cX10_cover 92 = .ok (.ireturn, 1) := by decide +kernel
theorem dX10_drawn_0 : decode cX10_drawn 0 = .ok (.lload_n 0, 1) := by decide +kernel
theorem dX10_drawn_1 : decode cX10_drawn 1 = .ok (.ldc2_w 271, 3) := by decide +kernel
theorem dX10_drawn_4 : decode cX10_drawn 4 = .ok (.lmul, 1) := by decide +kernel
theorem dX10_drawn_5 : decode cX10_drawn 5 = .ok (.ldc2_w 273, 3) := by decide +kernel
theorem dX10_drawn_8 : decode cX10_drawn 8 = .ok (.ladd, 1) := by decide +kernel
theorem dX10_drawn_9 : decode cX10_drawn 9 = .ok (.ldc2_w 275, 3) := by decide +kernel
theorem dX10_drawn_12 : decode cX10_drawn 12 = .ok (.lrem, 1) := by decide +kernel
theorem dX10_drawn_13 : decode cX10_drawn 13 = .ok (.lreturn, 1) := by decide +kernel
theorem dX10_safe_0 : decode cX10_safe 0 = .ok (.aload_n 0, 1) := by decide +kernel
theorem dX10_safe_1 : decode cX10_safe 1 = .ok (.iload_n 1, 1) := by decide +kernel
theorem dX10_safe_2 : decode cX10_safe 2 = .ok (.invokevirtual 168, 3) := by decide +kernel
theorem dX10_safe_5 : decode cX10_safe 5 = .ok (.ifCond .ne 5, 3) := by decide +kernel
theorem dX10_safe_8 : decode cX10_safe 8 = .ok (.iconst (-1), 1) := by decide +kernel
theorem dX10_safe_9 : decode cX10_safe 9 = .ok (.ireturn, 1) := by decide +kernel
theorem dX10_safe_10 : decode cX10_safe 10 = .ok (.iconst 0, 1) := by decide +kernel
theorem dX10_safe_11 : decode cX10_safe 11 = .ok (.istore_n 2, 1) := by decide +kernel
theorem dX10_safe_12 : decode cX10_safe 12 = .ok (.iconst 0, 1) := by decide +kernel
theorem dX10_safe_13 : decode cX10_safe 13 = .ok (.istore_n 3, 1) := by decide +kernel
theorem dX10_safe_14 : decode cX10_safe 14 = .ok (.iload_n 3, 1) := by decide +kernel
theorem dX10_safe_15 : decode cX10_safe 15 = .ok (.aload_n 0, 1) := by decide +kernel
theorem dX10_safe_16 : decode cX10_safe 16 = .ok (.getfield 55, 3) := by decide +kernel
theorem dX10_safe_19 : decode cX10_safe 19 = .ok (.getfield 114, 3) := by decide +kernel
theorem dX10_safe_22 : decode cX10_safe 22 = .ok (.getfield 192, 3) := by decide +kernel
theorem dX10_safe_25 : decode cX10_safe 25 = .ok (.if_icmp .ge 38, 3) := by decide +kernel
theorem dX10_safe_28 : decode cX10_safe 28 = .ok (.aload_n 0, 1) := by decide +kernel
theorem dX10_safe_29 : decode cX10_safe 29 = .ok (.getfield 55, 3) := by decide +kernel
theorem dX10_safe_32 : decode cX10_safe 32 = .ok (.getfield 114, 3) := by decide +kernel
theorem dX10_safe_35 : decode cX10_safe 35 = .ok (.aload_n 0, 1) := by decide +kernel
theorem dX10_safe_36 : decode cX10_safe 36 = .ok (.getfield 55, 3) := by decide +kernel
theorem dX10_safe_39 : decode cX10_safe 39 = .ok (.getfield 121, 3) := by decide +kernel
theorem dX10_safe_42 : decode cX10_safe 42 = .ok (.iload_n 1, 1) := by decide +kernel
theorem dX10_safe_43 : decode cX10_safe 43 = .ok (.iload_n 3, 1) := by decide +kernel
theorem dX10_safe_44 : decode cX10_safe 44 = .ok (.invokevirtual 281, 3) := by decide +kernel
theorem dX10_safe_47 : decode cX10_safe 47 = .ok (.iconst (-1), 1) := by decide +kernel
theorem dX10_safe_48 : decode cX10_safe 48 = .ok (.if_icmp .ne 9, 3) := by decide +kernel
theorem dX10_safe_51 : decode cX10_safe 51 = .ok (.iload_n 2, 1) := by decide +kernel
theorem dX10_safe_52 : decode cX10_safe 52 = .ok (.iconst 1, 1) := by decide +kernel
theorem dX10_safe_53 : decode cX10_safe 53 = .ok (.iload_n 3, 1) := by decide +kernel
theorem dX10_safe_54 : decode cX10_safe 54 = .ok (.ishl, 1) := by decide +kernel
theorem dX10_safe_55 : decode cX10_safe 55 = .ok (.ior, 1) := by decide +kernel
theorem dX10_safe_56 : decode cX10_safe 56 = .ok (.istore_n 2, 1) := by decide +kernel
theorem dX10_safe_57 : decode cX10_safe 57 = .ok (.iinc 3 1, 3) := by decide +kernel
theorem dX10_safe_60 : decode cX10_safe 60 = .ok (.goto (-46), 3) := by decide +kernel
theorem dX10_safe_63 : decode cX10_safe 63 = .ok (.aload_n 0, 1) := by decide +kernel
theorem dX10_safe_64 : decode cX10_safe 64 = .ok (.getfield 55, 3) := by decide +kernel
theorem dX10_safe_67 : decode cX10_safe 67 = .ok (.getfield 114, 3) := by decide +kernel
theorem dX10_safe_70 : decode cX10_safe 70 = .ok (.aload_n 0, 1) := by decide +kernel
theorem dX10_safe_71 : decode cX10_safe 71 = .ok (.getfield 55, 3) := by decide +kernel
theorem dX10_safe_74 : decode cX10_safe 74 = .ok (.getfield 121, 3) := by decide +kernel
theorem dX10_safe_77 : decode cX10_safe 77 = .ok (.getfield 171, 3) := by decide +kernel
theorem dX10_safe_80 : decode cX10_safe 80 = .ok (.iload_n 1, 1) := by decide +kernel
theorem dX10_safe_81 : decode cX10_safe 81 = .ok (.iaload, 1) := by decide +kernel
theorem dX10_safe_82 : decode cX10_safe 82 = .ok (.aload_n 0, 1) := by decide +kernel
theorem dX10_safe_83 : decode cX10_safe 83 = .ok (.getfield 55, 3) := by decide +kernel
theorem dX10_safe_86 : decode cX10_safe 86 = .ok (.getfield 114, 3) := by decide +kernel
theorem dX10_safe_89 : decode cX10_safe 89 = .ok (.getfield 174, 3) := by decide +kernel
theorem dX10_safe_92 : decode cX10_safe 92 = .ok (.iload_n 1, 1) := by decide +kernel
theorem dX10_safe_93 : decode cX10_safe 93 = .ok (.iaload, 1) := by decide +kernel
theorem dX10_safe_94 : decode cX10_safe 94 = .ok (.iload_n 2, 1) := by decide +kernel
theorem dX10_safe_95 : decode cX10_safe 95 = .ok (.invokevirtual 285, 3) := by decide +kernel
theorem dX10_safe_98 : decode cX10_safe 98 = .ok (.istore_n 3, 1) := by decide +kernel
theorem dX10_safe_99 : decode cX10_safe 99 = .ok (.iload_n 3, 1) := by decide +kernel
theorem dX10_safe_100 : decode cX10_safe 100 = .ok (.bipush 99, 2) := by decide +kernel
theorem dX10_safe_102 : decode cX10_safe 102 = .ok (.if_icmp .ne 8, 3) := by decide +kernel
theorem dX10_safe_105 : decode cX10_safe 105 = .ok (.bipush (-2), 2) := by decide +kernel
theorem dX10_safe_107 : decode cX10_safe 107 = .ok (.goto 4, 3) := by decide +kernel
theorem dX10_safe_110 : decode cX10_safe 110 = .ok (.iload_n 3, 1) := by decide +kernel
theorem dX10_safe_111 : decode cX10_safe 111 = .ok (.ireturn, 1) := by decide +kernel
theorem dX10_startNow_0 : decode cX10_startNow 0 = .ok (.aload_n 0, 1) := by decide +kernel
theorem dX10_startNow_1 : decode cX10_startNow 1 = .ok (.getfield 76, 3) := by decide +kernel
theorem dX10_startNow_4 : decode cX10_startNow 4 = .ok (.aload_n 0, 1) := by decide +kernel
theorem dX10_startNow_5 : decode cX10_startNow 5 = .ok (.getfield 55, 3) := by decide +kernel
theorem dX10_startNow_8 : decode cX10_startNow 8 = .ok (.getfield 114, 3) := by decide +kernel
theorem dX10_startNow_11 : decode cX10_startNow 11 = .ok (.aload_n 0, 1) := by decide +kernel
theorem dX10_startNow_12 : decode cX10_startNow 12 = .ok (.invokevirtual 296, 3) := by decide +kernel
theorem dX10_startNow_15 : decode cX10_startNow 15 = .ok (.aload_n 0, 1) := by decide +kernel
theorem dX10_startNow_16 : decode cX10_startNow 16 = .ok (.getfield 55, 3) := by decide +kernel
theorem dX10_startNow_19 : decode cX10_startNow 19 = .ok (.getfield 121, 3) := by decide +kernel
theorem dX10_startNow_22 : decode cX10_startNow 22 = .ok (.invokevirtual 299, 3) := by decide +kernel
theorem dX10_startNow_25 : decode cX10_startNow 25 = .ok (.return_, 1) := by decide +kernel
theorem dX10_stuck_0 : decode cX10_stuck 0 = .ok (.aload_n 0, 1) := by decide +kernel
theorem dX10_stuck_1 : decode cX10_stuck 1 = .ok (.iload_n 1, 1) := by decide +kernel
theorem dX10_stuck_2 : decode cX10_stuck 2 = .ok (.invokevirtual 168, 3) := by decide +kernel
theorem dX10_stuck_5 : decode cX10_stuck 5 = .ok (.ifCond .ne 5, 3) := by decide +kernel
theorem dX10_stuck_8 : decode cX10_stuck 8 = .ok (.iconst (-1), 1) := by decide +kernel
theorem dX10_stuck_9 : decode cX10_stuck 9 = .ok (.ireturn, 1) := by decide +kernel
theorem dX10_stuck_10 : decode cX10_stuck 10 = .ok (.aload_n 0, 1) := by decide +kernel
theorem dX10_stuck_11 : decode cX10_stuck 11 = .ok (.getfield 55, 3) := by decide +kernel
theorem dX10_stuck_14 : decode cX10_stuck 14 = .ok (.getfield 121, 3) := by decide +kernel
theorem dX10_stuck_17 : decode cX10_stuck 17 = .ok (.getfield 171, 3) := by decide +kernel
theorem dX10_stuck_20 : decode cX10_stuck 20 = .ok (.iload_n 1, 1) := by decide +kernel
theorem dX10_stuck_21 : decode cX10_stuck 21 = .ok (.iaload, 1) := by decide +kernel
theorem dX10_stuck_22 : decode cX10_stuck 22 = .ok (.istore_n 2, 1) := by decide +kernel
theorem dX10_stuck_23 : decode cX10_stuck 23 = .ok (.aload_n 0, 1) := by decide +kernel
theorem dX10_stuck_24 : decode cX10_stuck 24 = .ok (.getfield 55, 3) := by decide +kernel
theorem dX10_stuck_27 : decode cX10_stuck 27 = .ok (.getfield 114, 3) := by decide +kernel
theorem dX10_stuck_30 : decode cX10_stuck 30 = .ok (.getfield 174, 3) := by decide +kernel
theorem dX10_stuck_33 : decode cX10_stuck 33 = .ok (.iload_n 1, 1) := by decide +kernel
theorem dX10_stuck_34 : decode cX10_stuck 34 = .ok (.iaload, 1) := by decide +kernel
theorem dX10_stuck_35 : decode cX10_stuck 35 = .ok (.istore_n 3, 1) := by decide +kernel
theorem dX10_stuck_36 : decode cX10_stuck 36 = .ok (.aload_n 0, 1) := by decide +kernel
theorem dX10_stuck_37 : decode cX10_stuck 37 = .ok (.getfield 55, 3) := by decide +kernel
theorem dX10_stuck_40 : decode cX10_stuck 40 = .ok (.getfield 114, 3) := by decide +kernel
theorem dX10_stuck_43 : decode cX10_stuck 43 = .ok (.iload_n 1, 1) := by decide +kernel
theorem dX10_stuck_44 : decode cX10_stuck 44 = .ok (.iload_n 2, 1) := by decide +kernel
theorem dX10_stuck_45 : decode cX10_stuck 45 = .ok (.invokevirtual 277, 3) := by decide +kernel
theorem dX10_stuck_48 : decode cX10_stuck 48 = .ok (.bipush 99, 2) := by decide +kernel
theorem dX10_stuck_50 : decode cX10_stuck 50 = .ok (.if_icmp .ne 5, 3) := by decide +kernel
theorem dX10_stuck_53 : decode cX10_stuck 53 = .ok (.iconst 0, 1) := by decide +kernel
theorem dX10_stuck_54 : decode cX10_stuck 54 = .ok (.ireturn, 1) := by decide +kernel
theorem dX10_stuck_55 : decode cX10_stuck 55 = .ok (.iconst 1, 1) := by decide +kernel
theorem dX10_stuck_56 : decode cX10_stuck 56 = .ok (.iload_n 2, 1) := by decide +kernel
theorem dX10_stuck_57 : decode cX10_stuck 57 = .ok (.ishl, 1) := by decide +kernel
theorem dX10_stuck_58 : decode cX10_stuck 58 = .ok (.iconst 1, 1) := by decide +kernel
theorem dX10_stuck_59 : decode cX10_stuck 59 = .ok (.iload_n 3, 1) := by decide +kernel
theorem dX10_stuck_60 : decode cX10_stuck 60 = .ok (.ishl, 1) := by decide +kernel
theorem dX10_stuck_61 : decode cX10_stuck 61 = .ok (.ior, 1) := by decide +kernel
theorem dX10_stuck_62 : decode cX10_stuck 62 = .ok (.istore 4, 2) := by decide +kernel
theorem dX10_stuck_64 : decode cX10_stuck 64 = .ok (.iconst 0, 1) := by decide +kernel
theorem dX10_stuck_65 : decode cX10_stuck 65 = .ok (.istore 5, 2) := by decide +kernel
theorem dX10_stuck_67 : decode cX10_stuck 67 = .ok (.iload 5, 2) := by decide +kernel
theorem dX10_stuck_69 : decode cX10_stuck 69 = .ok (.aload_n 0, 1) := by decide +kernel
theorem dX10_stuck_70 : decode cX10_stuck 70 = .ok (.getfield 55, 3) := by decide +kernel
theorem dX10_stuck_73 : decode cX10_stuck 73 = .ok (.getfield 114, 3) := by decide +kernel
theorem dX10_stuck_76 : decode cX10_stuck 76 = .ok (.getfield 192, 3) := by decide +kernel
theorem dX10_stuck_79 : decode cX10_stuck 79 = .ok (.if_icmp .ge 41, 3) := by decide +kernel
theorem dX10_stuck_82 : decode cX10_stuck 82 = .ok (.aload_n 0, 1) := by decide +kernel
theorem dX10_stuck_83 : decode cX10_stuck 83 = .ok (.getfield 55, 3) := by decide +kernel
theorem dX10_stuck_86 : decode cX10_stuck 86 = .ok (.getfield 114, 3) := by decide +kernel
theorem dX10_stuck_89 : decode cX10_stuck 89 = .ok (.iload_n 2, 1) := by decide +kernel
theorem dX10_stuck_90 : decode cX10_stuck 90 = .ok (.iload_n 3, 1) := by decide +kernel
theorem dX10_stuck_91 : decode cX10_stuck 91 = .ok (.iconst 1, 1) := by decide +kernel
theorem dX10_stuck_92 : decode cX10_stuck 92 = .ok (.iload 5, 2) := by decide +kernel
theorem dX10_stuck_94 : decode cX10_stuck 94 = .ok (.ishl, 1) := by decide +kernel
theorem dX10_stuck_95 : decode cX10_stuck 95 = .ok (.iconst (-1), 1) := by decide +kernel
theorem dX10_stuck_96 : decode cX10_stuck 96 = .ok (.ixor, 1) := by decide +kernel
theorem dX10_stuck_97 : decode cX10_stuck 97 = .ok (.invokevirtual 285, 3) := by decide +kernel
theorem dX10_stuck_100 : decode cX10_stuck 100 = .ok (.bipush 99, 2) := by decide +kernel
theorem dX10_stuck_102 : decode cX10_stuck 102 = .ok (.if_icmp .ne 12, 3) := by decide +kernel
theorem dX10_stuck_105 : decode cX10_stuck 105 = .ok (.iload 4, 2) := by decide +kernel
theorem dX10_stuck_107 : decode cX10_stuck 107 = .ok (.iconst 1, 1) := by decide +kernel
theorem dX10_stuck_108 : decode cX10_stuck 108 = .ok (.iload 5, 2) := by decide +kernel
theorem dX10_stuck_110 : decode cX10_stuck 110 = .ok (.ishl, 1) := by decide +kernel
theorem dX10_stuck_111 : decode cX10_stuck 111 = .ok (.ior, 1) := by decide +kernel
theorem dX10_stuck_112 : decode cX10_stuck 112 = .ok (.istore 4, 2) := by decide +kernel
theorem dX10_stuck_114 : decode cX10_stuck 114 = .ok (.iinc 5 1, 3) := by decide +kernel
theorem dX10_stuck_117 : decode cX10_stuck 117 = .ok (.goto (-50), 3) := by decide +kernel
theorem dX10_stuck_120 : decode cX10_stuck 120 = .ok (.iload 4, 2) := by decide +kernel
theorem dX10_stuck_122 : decode cX10_stuck 122 = .ok (.ireturn, 1) := by decide +kernel
theorem dX10_walkersAtHome_0 : decode cX10_walkersAtHome 0 = .ok (.iconst 0, 1) := by decide +kernel
theorem dX10_walkersAtHome_1 : decode cX10_walkersAtHome 1 = .ok (.istore_n 1, 1) := by decide +kernel
theorem dX10_walkersAtHome_2 : decode cX10_walkersAtHome 2 = .ok (.iconst 0, 1) := by decide +kernel
theorem dX10_walkersAtHome_3 : decode cX10_walkersAtHome 3 = .ok (.istore_n 2, 1) := by decide +kernel
theorem dX10_walkersAtHome_4 : decode cX10_walkersAtHome 4 = .ok (.iload_n 2, 1) := by decide +kernel
theorem dX10_walkersAtHome_5 : decode cX10_walkersAtHome 5 = .ok (.aload_n 0, 1) := by decide +kernel
theorem dX10_walkersAtHome_6 : decode cX10_walkersAtHome 6 = .ok (.getfield 55, 3) := by decide +kernel
theorem dX10_walkersAtHome_9 : decode cX10_walkersAtHome 9 = .ok (.getfield 114, 3) := by decide +kernel
theorem dX10_walkersAtHome_12 : decode cX10_walkersAtHome 12 = .ok (.getfield 140, 3) := by decide +kernel
theorem dX10_walkersAtHome_15 : decode cX10_walkersAtHome 15 = .ok (.if_icmp .ge 42, 3) := by decide +kernel
theorem dX10_walkersAtHome_18 : decode cX10_walkersAtHome 18 = .ok (.aload_n 0, 1) := by decide +kernel
theorem dX10_walkersAtHome_19 : decode cX10_walkersAtHome 19 = .ok (.getfield 55, 3) := by decide +kernel
theorem dX10_walkersAtHome_22 : decode cX10_walkersAtHome 22 = .ok (.getfield 121, 3) := by decide +kernel
theorem dX10_walkersAtHome_25 : decode cX10_walkersAtHome 25 = .ok (.getfield 171, 3) := by decide +kernel
theorem dX10_walkersAtHome_28 : decode cX10_walkersAtHome 28 = .ok (.iload_n 2, 1) := by decide +kernel
theorem dX10_walkersAtHome_29 : decode cX10_walkersAtHome 29 = .ok (.iaload, 1) := by decide +kernel
theorem dX10_walkersAtHome_30 : decode cX10_walkersAtHome 30 = .ok (.aload_n 0, 1) := by decide +kernel
theorem dX10_walkersAtHome_31 : decode cX10_walkersAtHome 31 = .ok (.getfield 55, 3) := by decide +kernel
theorem dX10_walkersAtHome_34 : decode cX10_walkersAtHome 34 = .ok (.getfield 114, 3) := by decide +kernel
theorem dX10_walkersAtHome_37 : decode cX10_walkersAtHome 37 = .ok (.getfield 174, 3) := by decide +kernel
theorem dX10_walkersAtHome_40 : decode cX10_walkersAtHome 40 = .ok (.iload_n 2, 1) := by decide +kernel
theorem dX10_walkersAtHome_41 : decode cX10_walkersAtHome 41 = .ok (.iaload, 1) := by decide +kernel
theorem dX10_walkersAtHome_42 : decode cX10_walkersAtHome 42 = .ok (.if_icmp .ne 9, 3) := by decide +kernel
theorem dX10_walkersAtHome_45 : decode cX10_walkersAtHome 45 = .ok (.iload_n 1, 1) := by decide +kernel
theorem dX10_walkersAtHome_46 : decode cX10_walkersAtHome 46 = .ok (.iconst 1, 1) := by decide +kernel
theorem dX10_walkersAtHome_47 : decode cX10_walkersAtHome 47 = .ok (.iload_n 2, 1) := by decide +kernel
theorem dX10_walkersAtHome_48 : decode cX10_walkersAtHome 48 = .ok (.ishl, 1) := by decide +kernel
theorem dX10_walkersAtHome_49 : decode cX10_walkersAtHome 49 = .ok (.ior, 1) := by decide +kernel
theorem dX10_walkersAtHome_50 : decode cX10_walkersAtHome 50 = .ok (.istore_n 1, 1) := by decide +kernel
theorem dX10_walkersAtHome_51 : decode cX10_walkersAtHome 51 = .ok (.iinc 2 1, 3) := by decide +kernel
theorem dX10_walkersAtHome_54 : decode cX10_walkersAtHome 54 = .ok (.goto (-50), 3) := by decide +kernel
theorem dX10_walkersAtHome_57 : decode cX10_walkersAtHome 57 = .ok (.iload_n 1, 1) := by decide +kernel
theorem dX10_walkersAtHome_58 : decode cX10_walkersAtHome 58 = .ok (.ireturn, 1) := by decide +kernel
theorem hd_J6_bitCount_0f7a4 : yJ6_bitCount_0f7a4.cls ≠ "java/lang/invoke/MethodHandle" ∧ yJ6_bitCount_0f7a4.cls ≠ "java/lang/invoke/VarHandle" ∧ (parseMethodDescriptor yJ6_bitCount_0f7a4.desc).map (fun d => d.parameters.length) = some 1 := ⟨by decide +kernel, by decide +kernel, by decide +kernel⟩
theorem hd_X10_hasTown : yX10_hasTown.cls ≠ "java/lang/invoke/MethodHandle" ∧ yX10_hasTown.cls ≠ "java/lang/invoke/VarHandle" ∧ (parseMethodDescriptor yX10_hasTown.desc).map (fun d => d.parameters.length) = some 0 := ⟨by decide +kernel, by decide +kernel, by decide +kernel⟩
theorem hd_X10_inForce : yX10_inForce.cls ≠ "java/lang/invoke/MethodHandle" ∧ yX10_inForce.cls ≠ "java/lang/invoke/VarHandle" ∧ (parseMethodDescriptor yX10_inForce.desc).map (fun d => d.parameters.length) = some 0 := ⟨by decide +kernel, by decide +kernel, by decide +kernel⟩
theorem hd_X1_start : yX1_start.cls ≠ "java/lang/invoke/MethodHandle" ∧ yX1_start.cls ≠ "java/lang/invoke/VarHandle" ∧ (parseMethodDescriptor yX1_start.desc).map (fun d => d.parameters.length) = some 3 := ⟨by decide +kernel, by decide +kernel, by decide +kernel⟩
theorem hd_X8_holdsAllWays : yX8_holdsAllWays.cls ≠ "java/lang/invoke/MethodHandle" ∧ yX8_holdsAllWays.cls ≠ "java/lang/invoke/VarHandle" ∧ (parseMethodDescriptor yX8_holdsAllWays.desc).map (fun d => d.parameters.length) = some 1 := ⟨by decide +kernel, by decide +kernel, by decide +kernel⟩
set_option maxHeartbeats 4000000 in
set_option maxRecDepth 100000 in
theorem k_startNow (l : Launch) (D : va_G) (K : Nat → ClassId) (ad : Nat → Nat) (z : TS) (o : Ok z) : cV l yX10_startNow cX10_startNow 1 ({ frames := 3, cells := 0, slots := 0, locals := 70 }) D K ad z [.ref (ad 0)] (fun u => Ok u ∧ KC z u) := by
  refine t_enterV (by decide) (Nat.le_of_ble_eq_true rfl) rfl rfl ?_
  intro p e s m args below meth c A R Q H locs ls E hfr hlo RET G hl
  have E : mE p s m meth c cX10_startNow args 1 RX10 D K A := E
  have hl : lv_has ls 1 [(0, .ref (ad 0))] := hl
  refine lv_aload_n E.1 E.2.1 dX10_startNow_0 rfl (lv_at hl 0 rfl) ?_
  refine t_get E G 10 11 (rfl : ro 0 = 10) (C := RX10) (T := TX10) (N := 17) rfl (by decide) (by decide) (by decide) mw_fl_10_76 (v := .ref (ad 324)) (fvl_o (n := 324) rfl) dX10_startNow_1 ?_
  refine lv_aload_n E.1 E.2.1 dX10_startNow_4 rfl (lv_at hl 0 rfl) ?_
  refine t_get E G 10 7 (rfl : ro 0 = 10) (C := RX10) (T := TX10) (N := 17) rfl (by decide) (by decide) (by decide) mw_fl_10_55 (v := .ref (ad 56)) (fvl_o (n := 56) rfl) dX10_startNow_5 ?_
  refine t_get E G 2 0 (rfl : ro 56 = 2) (C := RX2) (T := TX2) (N := 5) rfl (by decide) (by decide) (by decide) mw_fl_10_114 (v := .ref (ad 57)) (fvl_o (n := 1) rfl) dX10_startNow_8 ?_
  refine lv_aload_n E.1 E.2.1 dX10_startNow_11 rfl (lv_at hl 0 rfl) ?_
  refine t_vr E G hl (k_inForce l D K ad z o) 10 (rfl : ro 0 = 10) (by decide) rfl rfl 0 rfl mw_code_X10_inForce mw_ini_10 mw_ml_10_296 mw_inst_X10_inForce mw_sel_X10_inForce hd_X10_inForce ⟨Nat.le_trans (by decide) hfr, Nat.le_trans (by decide) hlo⟩ rfl rfl rfl (Nat.le_of_ble_eq_true rfl) dX10_startNow_12 (fun r2 zz1 H locs hp3 G => ?_)
  obtain ⟨hz5, h4⟩ := hp3
  rw [hz5] at G
  refine lv_aload_n E.1 E.2.1 dX10_startNow_15 rfl (lv_at hl 0 rfl) ?_
  refine t_get E G 10 7 (rfl : ro 0 = 10) (C := RX10) (T := TX10) (N := 17) rfl (by decide) (by decide) (by decide) mw_fl_10_55 (v := .ref (ad 56)) (fvl_o (n := 56) rfl) dX10_startNow_16 ?_
  refine t_get E G 2 1 (rfl : ro 56 = 2) (C := RX2) (T := TX2) (N := 5) rfl (by decide) (by decide) (by decide) mw_fl_10_121 (v := .ref (ad 70)) (fvl_o (n := 14) rfl) dX10_startNow_19 ?_
  refine t_vv E G hl (c_start l D K ad z o 57 (by decide : at_ 8 57 = true) r2 h4 70 (by decide : at_ 6 70 = true)) 1 (rfl : ro 324 = 1) (by decide) rfl rfl 3 rfl mw_code_X1_start mw_ini_1 mw_ml_10_299 mw_inst_X1_start mw_sel_X1_start hd_X1_start ⟨Nat.le_trans (by decide) hfr, Nat.le_trans (by decide) hlo⟩ rfl rfl rfl (Nat.le_of_ble_eq_true rfl) dX10_startNow_22 (fun zz6 H locs hp8 G => ?_)
  obtain ⟨oo9, kk10⟩ := hp8
  have kk11 : KC z zz6 := KC.tr KC.rf kk10
  exact RET G ⟨oo9, kk11⟩ dX10_startNow_25
set_option maxHeartbeats 4000000 in
set_option maxRecDepth 100000 in
theorem k_walkersAtHome (l : Launch) (D : va_G) (K : Nat → ClassId) (ad : Nat → Nat) (z : TS) (o : Ok z) : cI l yX10_walkersAtHome cX10_walkersAtHome 3 .int ({ frames := 0, cells := 0, slots := 0, locals := 0 }) D K ad z [.ref (ad 0)] (fun r u => u = z) := by
  refine t_enterI (by decide) (Nat.le_of_ble_eq_true rfl) rfl rfl ?_
  intro p e s m args below meth c A R Q H locs ls E hfr hlo RET G hl
  have E : mE p s m meth c cX10_walkersAtHome args 3 RX10 D K A := E
  have hl : lv_has ls 3 [(0, .ref (ad 0))] := hl
  refine lv_iconst (v := 0) E.1 E.2.1 dX10_walkersAtHome_0 (by decide) ?_
  refine lv_istore_n (lv' := [(1, .int 0), (0, .ref (ad 0))]) E.1 E.2.1 dX10_walkersAtHome_1 rfl hl (by decide) rfl (fun ls hl => ?_)
  refine lv_iconst (v := 0) E.1 E.2.1 dX10_walkersAtHome_2 (by decide) ?_
  refine lv_istore_n (lv' := [(2, .int 0), (1, .int 0), (0, .ref (ad 0))]) E.1 E.2.1 dX10_walkersAtHome_3 rfl hl (by decide) rfl (fun ls hl => ?_)
  have LOOP4 : ∀ n : Nat, ∀ (y1 : Int32) (y2 : Int32) (H : Heap) (locs : List Loc) (ls : Array Slot), mG D A s H locs (wd K ad z) → iv 0 5 y1 → 5 < y1.toInt + (n : Int) → lv_has ls 3 [(2, .int y1), (1, .int y2), (0, .ref (ad 0))] → W p l e R s m args below meth c H locs 0 0 Q (F0 m 4 ls []) := by
    intro n
    induction n with
    | zero =>
      intro y1 y2 H locs ls G b7 m6 hl
      exact absurd m6 (by have := b7.1; have := b7.2; omega)
    | succ n ih4 =>
      intro y1 y2 H locs ls G b7 m6 hl
      refine lv_iload_n E.1 E.2.1 dX10_walkersAtHome_4 rfl (lv_at hl 0 rfl) ?_
      refine lv_aload_n E.1 E.2.1 dX10_walkersAtHome_5 rfl (lv_at hl 2 rfl) ?_
      refine t_get E G 10 7 (rfl : ro 0 = 10) (C := RX10) (T := TX10) (N := 17) rfl (by decide) (by decide) (by decide) mw_fl_10_55 (v := .ref (ad 56)) (fvl_o (n := 56) rfl) dX10_walkersAtHome_6 ?_
      refine t_get E G 2 0 (rfl : ro 56 = 2) (C := RX2) (T := TX2) (N := 5) rfl (by decide) (by decide) (by decide) mw_fl_10_114 (v := .ref (ad 57)) (fvl_o (n := 1) rfl) dX10_walkersAtHome_9 ?_
      refine t_get E G 8 3 (rfl : ro 57 = 8) (C := RX8) (T := TX8) (N := 10) rfl (by decide) (by decide) (by decide) mw_fl_10_140 (fvl_i rfl) dX10_walkersAtHome_12 ?_
      refine lv_topi (fun v8 e9 => ?_)
      have b10 : iv 0 5 v8 := by rw [e9]; exact o.i 8 3 (rfl : ro 57 = 8)
      refine lv_icmp_ge (tgt := 57) E.1 E.2.1 dX10_walkersAtHome_15 (by decide) (fun c11 => ?_) (fun c11 => ?_)
      · skip
        refine lv_iload_n E.1 E.2.1 dX10_walkersAtHome_57 rfl (lv_at hl 1 rfl) ?_
        exact RET G rfl rfl dX10_walkersAtHome_58
      · skip
        have b12 : iv 0 4 y1 := lt_l (Int32.not_le.mp c11) b7 b10 (by decide)
        have b13 : iv 1 5 v8 := lt_r (Int32.not_le.mp c11) b7 b10 (by decide)
        refine lv_aload_n E.1 E.2.1 dX10_walkersAtHome_18 rfl (lv_at hl 2 rfl) ?_
        refine t_get E G 10 7 (rfl : ro 0 = 10) (C := RX10) (T := TX10) (N := 17) rfl (by decide) (by decide) (by decide) mw_fl_10_55 (v := .ref (ad 56)) (fvl_o (n := 56) rfl) dX10_walkersAtHome_19 ?_
        refine t_get E G 2 1 (rfl : ro 56 = 2) (C := RX2) (T := TX2) (N := 5) rfl (by decide) (by decide) (by decide) mw_fl_10_121 (v := .ref (ad 70)) (fvl_o (n := 14) rfl) dX10_walkersAtHome_22 ?_
        refine t_get E G 6 0 (rfl : ro 70 = 6) (C := RX6) (T := TX6) (N := 8) rfl (by decide) (by decide) (by decide) mw_fl_10_171 (v := .ref (ad 71)) (fvl_o (n := 1) rfl) dX10_walkersAtHome_25 ?_
        refine lv_iload_n E.1 E.2.1 dX10_walkersAtHome_28 rfl (lv_at hl 0 rfl) ?_
        refine t_iald E G 21 (rfl : ro 71 = 21) (by decide) (by decide) rfl (n := 5) rfl (iv_vp b12 (by decide) (by decide)) dX10_walkersAtHome_29 ?_
        refine lv_topi (fun v14 e15 => ?_)
        have b16 : iv 0 7 v14 := by rw [e15]; exact o.ac 21 (rfl : ro 71 = 21) (by decide) _
        refine lv_aload_n E.1 E.2.1 dX10_walkersAtHome_30 rfl (lv_at hl 2 rfl) ?_
        refine t_get E G 10 7 (rfl : ro 0 = 10) (C := RX10) (T := TX10) (N := 17) rfl (by decide) (by decide) (by decide) mw_fl_10_55 (v := .ref (ad 56)) (fvl_o (n := 56) rfl) dX10_walkersAtHome_31 ?_
        refine t_get E G 2 0 (rfl : ro 56 = 2) (C := RX2) (T := TX2) (N := 5) rfl (by decide) (by decide) (by decide) mw_fl_10_114 (v := .ref (ad 57)) (fvl_o (n := 1) rfl) dX10_walkersAtHome_34 ?_
        refine t_get E G 8 7 (rfl : ro 57 = 8) (C := RX8) (T := TX8) (N := 10) rfl (by decide) (by decide) (by decide) mw_fl_10_174 (v := .ref (ad 61)) (fvl_o (n := 4) rfl) dX10_walkersAtHome_37 ?_
        refine lv_iload_n E.1 E.2.1 dX10_walkersAtHome_40 rfl (lv_at hl 0 rfl) ?_
        refine t_iald E G 25 (rfl : ro 61 = 25) (by decide) (by decide) rfl (n := 5) rfl (iv_vp b12 (by decide) (by decide)) dX10_walkersAtHome_41 ?_
        refine lv_topi (fun v17 e18 => ?_)
        have b19 : iv 0 7 v17 := by rw [e18]; exact o.ac 25 (rfl : ro 61 = 25) (by decide) _
        refine lv_icmp_ne (tgt := 51) E.1 E.2.1 dX10_walkersAtHome_42 (by decide) (fun c20 => ?_) (fun c20 => ?_)
        · skip
          obtain ⟨v21, e22⟩ : ∃ w : Int32, w = y1 + (1 : Int32) := ⟨_, rfl⟩
          refine lv_iinc (v := v21) (lv' := [(2, .int v21), (1, .int y2), (0, .ref (ad 0))]) E.1 E.2.1 dX10_walkersAtHome_51 hl (k := 0) rfl (by rw [e22]; rfl) (by decide) rfl (fun ls hl => ?_)
          have b23 : iv 1 5 v21 := by rw [e22]; exact iv_add b12 (iv_lit (lo := 1) (hi := 1) 1 (by decide) (by decide)) (by decide) (by decide) (by decide) (by decide)
          have t24 : v21.toInt = y1.toInt + 1 := by rw [e22]; exact ti_addc 1 (by decide) b12 (by decide) (by decide)
          refine lv_goto (tgt := 4) E.1 E.2.1 dX10_walkersAtHome_54 (by decide) ?_
          exact ih4 v21 y2 H locs ls G (iv_mono b23 (by decide) (by decide)) (by have := t24; have := m6; omega) (lv_sub hl [0, 1, 2] rfl)
        · skip
          refine lv_iload_n E.1 E.2.1 dX10_walkersAtHome_45 rfl (lv_at hl 1 rfl) ?_
          refine lv_iconst (v := 1) E.1 E.2.1 dX10_walkersAtHome_46 (by decide) ?_
          refine lv_iload_n E.1 E.2.1 dX10_walkersAtHome_47 rfl (lv_at hl 0 rfl) ?_
          refine lv_ishl E.1 E.2.1 dX10_walkersAtHome_48 ?_
          refine lv_topi (fun v25 e26 => ?_)
          have b27 : iv 1 256 v25 := by rw [e26]; exact iv_shl8 (iv_mono b12 (by decide) (by decide))
          refine lv_ior E.1 E.2.1 dX10_walkersAtHome_49 ?_
          refine lv_topi (fun v28 e29 => ?_)
          refine lv_istore_n (lv' := [(1, .int v28), (2, .int y1), (0, .ref (ad 0))]) E.1 E.2.1 dX10_walkersAtHome_50 rfl hl (by decide) rfl (fun ls hl => ?_)
          obtain ⟨v30, e31⟩ : ∃ w : Int32, w = y1 + (1 : Int32) := ⟨_, rfl⟩
          refine lv_iinc (v := v30) (lv' := [(2, .int v30), (1, .int v28), (0, .ref (ad 0))]) E.1 E.2.1 dX10_walkersAtHome_51 hl (k := 1) rfl (by rw [e31]; rfl) (by decide) rfl (fun ls hl => ?_)
          have b32 : iv 1 5 v30 := by rw [e31]; exact iv_add b12 (iv_lit (lo := 1) (hi := 1) 1 (by decide) (by decide)) (by decide) (by decide) (by decide) (by decide)
          have t33 : v30.toInt = y1.toInt + 1 := by rw [e31]; exact ti_addc 1 (by decide) b12 (by decide) (by decide)
          refine lv_goto (tgt := 4) E.1 E.2.1 dX10_walkersAtHome_54 (by decide) ?_
          exact ih4 v30 v28 H locs ls G (iv_mono b32 (by decide) (by decide)) (by have := t33; have := m6; omega) (lv_sub hl [0, 1, 2] rfl)
  exact LOOP4 6 0 0 H locs ls G (iv_mono (iv_lit (lo := 0) (hi := 0) 0 (by decide) (by decide)) (by decide) (by decide)) (by have := (iv_lit (lo := 0) (hi := 0) 0 (by decide) (by decide)).1; omega) (lv_sub hl [0, 1, 2] rfl)
set_option maxHeartbeats 4000000 in
set_option maxRecDepth 100000 in
theorem k_safe (l : Launch) (D : va_G) (K : Nat → ClassId) (ad : Nat → Nat) (z : TS) (o : Ok z) (x1 : Int32) : cI l yX10_safe cX10_safe 4 .int ({ frames := 2, cells := 0, slots := 0, locals := 47 }) D K ad z [.ref (ad 0), .int x1] (fun r u => u = z) := by
  refine t_enterI (by decide) (Nat.le_of_ble_eq_true rfl) rfl rfl ?_
  intro p e s m args below meth c A R Q H locs ls E hfr hlo RET G hl
  have E : mE p s m meth c cX10_safe args 4 RX10 D K A := E
  have hl : lv_has ls 4 [(0, .ref (ad 0)), (1, .int x1)] := hl
  refine lv_aload_n E.1 E.2.1 dX10_safe_0 rfl (lv_at hl 0 rfl) ?_
  refine lv_iload_n E.1 E.2.1 dX10_safe_1 rfl (lv_at hl 1 rfl) ?_
  refine t_vi E G hl (h_walker l D K ad z o x1) 10 (rfl : ro 0 = 10) (by decide) rfl rfl 1 rfl mw_code_X10_hasWalker mw_ini_10 mw_ml_10_168 mw_inst_X10_hasWalker mw_sel_X10_hasWalker hd_X10_hasWalker ⟨Nat.le_trans (by decide) hfr, Nat.le_trans (by decide) hlo⟩ rfl rfl rfl (Nat.le_of_ble_eq_true rfl) dX10_safe_2 (fun r2 zz1 H locs hp3 G => ?_)
  obtain ⟨hz6, b4, h5⟩ := hp3
  rw [hz6] at G
  refine lv_if_ne (tgt := 10) E.1 E.2.1 dX10_safe_5 (by decide) (fun c7 => ?_) (fun c7 => ?_)
  · skip
    have b8 : iv 1 1 r2 := ne_lo c7 b4 (by decide) (by decide)
    have b9 : iv 0 4 x1 := h5 c7
    refine lv_iconst (v := 0) E.1 E.2.1 dX10_safe_10 (by decide) ?_
    refine lv_istore_n (lv' := [(2, .int 0), (0, .ref (ad 0)), (1, .int x1)]) E.1 E.2.1 dX10_safe_11 rfl hl (by decide) rfl (fun ls hl => ?_)
    refine lv_iconst (v := 0) E.1 E.2.1 dX10_safe_12 (by decide) ?_
    refine lv_istore_n (lv' := [(3, .int 0), (2, .int 0), (0, .ref (ad 0)), (1, .int x1)]) E.1 E.2.1 dX10_safe_13 rfl hl (by decide) rfl (fun ls hl => ?_)
    have LOOP14 : ∀ n : Nat, ∀ (y10 : Int32) (y11 : Int32) (H : Heap) (locs : List Loc) (ls : Array Slot), mG D A s H locs (wd K ad z) → iv 0 8 y10 → 8 < y10.toInt + (n : Int) → lv_has ls 4 [(3, .int y10), (2, .int y11), (0, .ref (ad 0)), (1, .int x1)] → W p l e R s m args below meth c H locs 0 0 Q (F0 m 14 ls []) := by
      intro n
      induction n with
      | zero =>
        intro y10 y11 H locs ls G b16 m15 hl
        exact absurd m15 (by have := b16.1; have := b16.2; omega)
      | succ n ih14 =>
        intro y10 y11 H locs ls G b16 m15 hl
        refine lv_iload_n E.1 E.2.1 dX10_safe_14 rfl (lv_at hl 0 rfl) ?_
        refine lv_aload_n E.1 E.2.1 dX10_safe_15 rfl (lv_at hl 2 rfl) ?_
        refine t_get E G 10 7 (rfl : ro 0 = 10) (C := RX10) (T := TX10) (N := 17) rfl (by decide) (by decide) (by decide) mw_fl_10_55 (v := .ref (ad 56)) (fvl_o (n := 56) rfl) dX10_safe_16 ?_
        refine t_get E G 2 0 (rfl : ro 56 = 2) (C := RX2) (T := TX2) (N := 5) rfl (by decide) (by decide) (by decide) mw_fl_10_114 (v := .ref (ad 57)) (fvl_o (n := 1) rfl) dX10_safe_19 ?_
        refine t_get E G 8 0 (rfl : ro 57 = 8) (C := RX8) (T := TX8) (N := 10) rfl (by decide) (by decide) (by decide) mw_fl_10_192 (fvl_i rfl) dX10_safe_22 ?_
        refine lv_topi (fun v17 e18 => ?_)
        have b19 : iv 0 8 v17 := by rw [e18]; exact o.i 8 0 (rfl : ro 57 = 8)
        refine lv_icmp_ge (tgt := 63) E.1 E.2.1 dX10_safe_25 (by decide) (fun c20 => ?_) (fun c20 => ?_)
        · skip
          refine lv_aload_n E.1 E.2.1 dX10_safe_63 rfl (lv_at hl 2 rfl) ?_
          refine t_get E G 10 7 (rfl : ro 0 = 10) (C := RX10) (T := TX10) (N := 17) rfl (by decide) (by decide) (by decide) mw_fl_10_55 (v := .ref (ad 56)) (fvl_o (n := 56) rfl) dX10_safe_64 ?_
          refine t_get E G 2 0 (rfl : ro 56 = 2) (C := RX2) (T := TX2) (N := 5) rfl (by decide) (by decide) (by decide) mw_fl_10_114 (v := .ref (ad 57)) (fvl_o (n := 1) rfl) dX10_safe_67 ?_
          refine lv_aload_n E.1 E.2.1 dX10_safe_70 rfl (lv_at hl 2 rfl) ?_
          refine t_get E G 10 7 (rfl : ro 0 = 10) (C := RX10) (T := TX10) (N := 17) rfl (by decide) (by decide) (by decide) mw_fl_10_55 (v := .ref (ad 56)) (fvl_o (n := 56) rfl) dX10_safe_71 ?_
          refine t_get E G 2 1 (rfl : ro 56 = 2) (C := RX2) (T := TX2) (N := 5) rfl (by decide) (by decide) (by decide) mw_fl_10_121 (v := .ref (ad 70)) (fvl_o (n := 14) rfl) dX10_safe_74 ?_
          refine t_get E G 6 0 (rfl : ro 70 = 6) (C := RX6) (T := TX6) (N := 8) rfl (by decide) (by decide) (by decide) mw_fl_10_171 (v := .ref (ad 71)) (fvl_o (n := 1) rfl) dX10_safe_77 ?_
          refine lv_iload_n E.1 E.2.1 dX10_safe_80 rfl (lv_at hl 3 rfl) ?_
          refine t_iald E G 21 (rfl : ro 71 = 21) (by decide) (by decide) rfl (n := 5) rfl (iv_vp b9 (by decide) (by decide)) dX10_safe_81 ?_
          refine lv_topi (fun v21 e22 => ?_)
          have b23 : iv 0 7 v21 := by rw [e22]; exact o.ac 21 (rfl : ro 71 = 21) (by decide) _
          refine lv_aload_n E.1 E.2.1 dX10_safe_82 rfl (lv_at hl 2 rfl) ?_
          refine t_get E G 10 7 (rfl : ro 0 = 10) (C := RX10) (T := TX10) (N := 17) rfl (by decide) (by decide) (by decide) mw_fl_10_55 (v := .ref (ad 56)) (fvl_o (n := 56) rfl) dX10_safe_83 ?_
          refine t_get E G 2 0 (rfl : ro 56 = 2) (C := RX2) (T := TX2) (N := 5) rfl (by decide) (by decide) (by decide) mw_fl_10_114 (v := .ref (ad 57)) (fvl_o (n := 1) rfl) dX10_safe_86 ?_
          refine t_get E G 8 7 (rfl : ro 57 = 8) (C := RX8) (T := TX8) (N := 10) rfl (by decide) (by decide) (by decide) mw_fl_10_174 (v := .ref (ad 61)) (fvl_o (n := 4) rfl) dX10_safe_89 ?_
          refine lv_iload_n E.1 E.2.1 dX10_safe_92 rfl (lv_at hl 3 rfl) ?_
          refine t_iald E G 25 (rfl : ro 61 = 25) (by decide) (by decide) rfl (n := 5) rfl (iv_vp b9 (by decide) (by decide)) dX10_safe_93 ?_
          refine lv_topi (fun v24 e25 => ?_)
          have b26 : iv 0 7 v24 := by rw [e25]; exact o.ac 25 (rfl : ro 61 = 25) (by decide) _
          refine lv_iload_n E.1 E.2.1 dX10_safe_94 rfl (lv_at hl 1 rfl) ?_
          refine t_vi E G hl (t_within l D K ad z o 57 (by decide : at_ 8 57 = true) v21 v24 y11) 8 (rfl : ro 57 = 8) (by decide) rfl rfl 3 rfl mw_code_X8_waysWithin mw_ini_8 mw_ml_10_285 mw_inst_X8_waysWithin mw_sel_X8_waysWithin hd_X8_waysWithin ⟨Nat.le_trans (by decide) hfr, Nat.le_trans (by decide) hlo⟩ rfl rfl rfl (Nat.le_of_ble_eq_true rfl) dX10_safe_95 (fun r28 zz27 H locs hp29 G => ?_)
          obtain ⟨hz31, b30⟩ := hp29
          rw [hz31] at G
          refine lv_istore_n (lv' := [(3, .int r28), (2, .int y11), (0, .ref (ad 0)), (1, .int x1)]) E.1 E.2.1 dX10_safe_98 rfl hl (by decide) rfl (fun ls hl => ?_)
          refine lv_iload_n E.1 E.2.1 dX10_safe_99 rfl (lv_at hl 0 rfl) ?_
          refine lv_bipush (v := 99) E.1 E.2.1 dX10_safe_100 (by decide) ?_
          refine lv_icmp_ne (tgt := 110) E.1 E.2.1 dX10_safe_102 (by decide) (fun c32 => ?_) (fun c32 => ?_)
          · skip
            have b33 : iv 0 98 r28 := ne_hi c32 b30 (by decide) (by decide)
            refine lv_iload_n E.1 E.2.1 dX10_safe_110 rfl (lv_at hl 0 rfl) ?_
            exact RET G rfl rfl dX10_safe_111
          · skip
            have b34 : iv 99 99 r28 := iv_eq c32 (iv_lit (lo := 99) (hi := 99) 99 (by decide) (by decide))
            refine lv_bipush (v := (-2)) E.1 E.2.1 dX10_safe_105 (by decide) ?_
            refine lv_goto (tgt := 111) E.1 E.2.1 dX10_safe_107 (by decide) ?_
            exact RET G rfl rfl dX10_safe_111
        · skip
          have b35 : iv 0 7 y10 := lt_l (Int32.not_le.mp c20) b16 b19 (by decide)
          have b36 : iv 1 8 v17 := lt_r (Int32.not_le.mp c20) b16 b19 (by decide)
          refine lv_aload_n E.1 E.2.1 dX10_safe_28 rfl (lv_at hl 2 rfl) ?_
          refine t_get E G 10 7 (rfl : ro 0 = 10) (C := RX10) (T := TX10) (N := 17) rfl (by decide) (by decide) (by decide) mw_fl_10_55 (v := .ref (ad 56)) (fvl_o (n := 56) rfl) dX10_safe_29 ?_
          refine t_get E G 2 0 (rfl : ro 56 = 2) (C := RX2) (T := TX2) (N := 5) rfl (by decide) (by decide) (by decide) mw_fl_10_114 (v := .ref (ad 57)) (fvl_o (n := 1) rfl) dX10_safe_32 ?_
          refine lv_aload_n E.1 E.2.1 dX10_safe_35 rfl (lv_at hl 2 rfl) ?_
          refine t_get E G 10 7 (rfl : ro 0 = 10) (C := RX10) (T := TX10) (N := 17) rfl (by decide) (by decide) (by decide) mw_fl_10_55 (v := .ref (ad 56)) (fvl_o (n := 56) rfl) dX10_safe_36 ?_
          refine t_get E G 2 1 (rfl : ro 56 = 2) (C := RX2) (T := TX2) (N := 5) rfl (by decide) (by decide) (by decide) mw_fl_10_121 (v := .ref (ad 70)) (fvl_o (n := 14) rfl) dX10_safe_39 ?_
          refine lv_iload_n E.1 E.2.1 dX10_safe_42 rfl (lv_at hl 3 rfl) ?_
          refine lv_iload_n E.1 E.2.1 dX10_safe_43 rfl (lv_at hl 0 rfl) ?_
          refine t_vi E G hl (t_has l D K ad z o 57 (by decide : at_ 8 57 = true) 70 (by decide : at_ 6 70 = true) x1 (iv_mono b9 (by decide) (by decide)) y10) 8 (rfl : ro 57 = 8) (by decide) rfl rfl 3 rfl mw_code_X8_lureThatHas mw_ini_8 mw_ml_10_281 mw_inst_X8_lureThatHas mw_sel_X8_lureThatHas hd_X8_lureThatHas ⟨Nat.le_trans (by decide) hfr, Nat.le_trans (by decide) hlo⟩ rfl rfl rfl (Nat.le_of_ble_eq_true rfl) dX10_safe_44 (fun r38 zz37 H locs hp39 G => ?_)
          obtain ⟨hz41, b40⟩ := hp39
          rw [hz41] at G
          refine lv_iconst (v := (-1)) E.1 E.2.1 dX10_safe_47 (by decide) ?_
          refine lv_icmp_ne (tgt := 57) E.1 E.2.1 dX10_safe_48 (by decide) (fun c42 => ?_) (fun c42 => ?_)
          · skip
            have b43 : iv 0 5 r38 := ne_lo c42 b40 (by decide) (by decide)
            obtain ⟨v44, e45⟩ : ∃ w : Int32, w = y10 + (1 : Int32) := ⟨_, rfl⟩
            refine lv_iinc (v := v44) (lv' := [(3, .int v44), (2, .int y11), (0, .ref (ad 0)), (1, .int x1)]) E.1 E.2.1 dX10_safe_57 hl (k := 0) rfl (by rw [e45]; rfl) (by decide) rfl (fun ls hl => ?_)
            have b46 : iv 1 8 v44 := by rw [e45]; exact iv_add b35 (iv_lit (lo := 1) (hi := 1) 1 (by decide) (by decide)) (by decide) (by decide) (by decide) (by decide)
            have t47 : v44.toInt = y10.toInt + 1 := by rw [e45]; exact ti_addc 1 (by decide) b35 (by decide) (by decide)
            refine lv_goto (tgt := 14) E.1 E.2.1 dX10_safe_60 (by decide) ?_
            exact ih14 v44 y11 H locs ls G (iv_mono b46 (by decide) (by decide)) (by have := t47; have := m15; omega) (lv_sub hl [0, 1, 2, 3] rfl)
          · skip
            have b48 : iv (-1) (-1) r38 := iv_eq c42 (iv_lit (lo := (-1)) (hi := (-1)) (-1) (by decide) (by decide))
            refine lv_iload_n E.1 E.2.1 dX10_safe_51 rfl (lv_at hl 1 rfl) ?_
            refine lv_iconst (v := 1) E.1 E.2.1 dX10_safe_52 (by decide) ?_
            refine lv_iload_n E.1 E.2.1 dX10_safe_53 rfl (lv_at hl 0 rfl) ?_
            refine lv_ishl E.1 E.2.1 dX10_safe_54 ?_
            refine lv_topi (fun v49 e50 => ?_)
            have b51 : iv 1 256 v49 := by rw [e50]; exact iv_shl8 (iv_mono b35 (by decide) (by decide))
            refine lv_ior E.1 E.2.1 dX10_safe_55 ?_
            refine lv_topi (fun v52 e53 => ?_)
            refine lv_istore_n (lv' := [(2, .int v52), (3, .int y10), (0, .ref (ad 0)), (1, .int x1)]) E.1 E.2.1 dX10_safe_56 rfl hl (by decide) rfl (fun ls hl => ?_)
            obtain ⟨v54, e55⟩ : ∃ w : Int32, w = y10 + (1 : Int32) := ⟨_, rfl⟩
            refine lv_iinc (v := v54) (lv' := [(3, .int v54), (2, .int v52), (0, .ref (ad 0)), (1, .int x1)]) E.1 E.2.1 dX10_safe_57 hl (k := 1) rfl (by rw [e55]; rfl) (by decide) rfl (fun ls hl => ?_)
            have b56 : iv 1 8 v54 := by rw [e55]; exact iv_add b35 (iv_lit (lo := 1) (hi := 1) 1 (by decide) (by decide)) (by decide) (by decide) (by decide) (by decide)
            have t57 : v54.toInt = y10.toInt + 1 := by rw [e55]; exact ti_addc 1 (by decide) b35 (by decide) (by decide)
            refine lv_goto (tgt := 14) E.1 E.2.1 dX10_safe_60 (by decide) ?_
            exact ih14 v54 v52 H locs ls G (iv_mono b56 (by decide) (by decide)) (by have := t57; have := m15; omega) (lv_sub hl [0, 1, 2, 3] rfl)
    exact LOOP14 9 0 0 H locs ls G (iv_mono (iv_lit (lo := 0) (hi := 0) 0 (by decide) (by decide)) (by decide) (by decide)) (by have := (iv_lit (lo := 0) (hi := 0) 0 (by decide) (by decide)).1; omega) (lv_sub hl [0, 1, 2, 3] rfl)
  · skip
    have b58 : iv 0 0 r2 := iv_eq c7 (iv_lit (lo := 0) (hi := 0) 0 (by decide) (by decide))
    refine lv_iconst (v := (-1)) E.1 E.2.1 dX10_safe_8 (by decide) ?_
    exact RET G rfl rfl dX10_safe_9
set_option maxHeartbeats 4000000 in
set_option maxRecDepth 100000 in
theorem k_stuck (l : Launch) (D : va_G) (K : Nat → ClassId) (ad : Nat → Nat) (z : TS) (o : Ok z) (x1 : Int32) : cI l yX10_stuck cX10_stuck 6 .int ({ frames := 1, cells := 0, slots := 0, locals := 27 }) D K ad z [.ref (ad 0), .int x1] (fun r u => u = z) := by
  refine t_enterI (by decide) (Nat.le_of_ble_eq_true rfl) rfl rfl ?_
  intro p e s m args below meth c A R Q H locs ls E hfr hlo RET G hl
  have E : mE p s m meth c cX10_stuck args 6 RX10 D K A := E
  have hl : lv_has ls 6 [(0, .ref (ad 0)), (1, .int x1)] := hl
  refine lv_aload_n E.1 E.2.1 dX10_stuck_0 rfl (lv_at hl 0 rfl) ?_
  refine lv_iload_n E.1 E.2.1 dX10_stuck_1 rfl (lv_at hl 1 rfl) ?_
  refine t_vi E G hl (h_walker l D K ad z o x1) 10 (rfl : ro 0 = 10) (by decide) rfl rfl 1 rfl mw_code_X10_hasWalker mw_ini_10 mw_ml_10_168 mw_inst_X10_hasWalker mw_sel_X10_hasWalker hd_X10_hasWalker ⟨Nat.le_trans (by decide) hfr, Nat.le_trans (by decide) hlo⟩ rfl rfl rfl (Nat.le_of_ble_eq_true rfl) dX10_stuck_2 (fun r2 zz1 H locs hp3 G => ?_)
  obtain ⟨hz6, b4, h5⟩ := hp3
  rw [hz6] at G
  refine lv_if_ne (tgt := 10) E.1 E.2.1 dX10_stuck_5 (by decide) (fun c7 => ?_) (fun c7 => ?_)
  · skip
    have b8 : iv 1 1 r2 := ne_lo c7 b4 (by decide) (by decide)
    have b9 : iv 0 4 x1 := h5 c7
    refine lv_aload_n E.1 E.2.1 dX10_stuck_10 rfl (lv_at hl 0 rfl) ?_
    refine t_get E G 10 7 (rfl : ro 0 = 10) (C := RX10) (T := TX10) (N := 17) rfl (by decide) (by decide) (by decide) mw_fl_10_55 (v := .ref (ad 56)) (fvl_o (n := 56) rfl) dX10_stuck_11 ?_
    refine t_get E G 2 1 (rfl : ro 56 = 2) (C := RX2) (T := TX2) (N := 5) rfl (by decide) (by decide) (by decide) mw_fl_10_121 (v := .ref (ad 70)) (fvl_o (n := 14) rfl) dX10_stuck_14 ?_
    refine t_get E G 6 0 (rfl : ro 70 = 6) (C := RX6) (T := TX6) (N := 8) rfl (by decide) (by decide) (by decide) mw_fl_10_171 (v := .ref (ad 71)) (fvl_o (n := 1) rfl) dX10_stuck_17 ?_
    refine lv_iload_n E.1 E.2.1 dX10_stuck_20 rfl (lv_at hl 1 rfl) ?_
    refine t_iald E G 21 (rfl : ro 71 = 21) (by decide) (by decide) rfl (n := 5) rfl (iv_vp b9 (by decide) (by decide)) dX10_stuck_21 ?_
    refine lv_topi (fun v10 e11 => ?_)
    have b12 : iv 0 7 v10 := by rw [e11]; exact o.ac 21 (rfl : ro 71 = 21) (by decide) _
    refine lv_istore_n (lv' := [(2, .int v10), (0, .ref (ad 0)), (1, .int x1)]) E.1 E.2.1 dX10_stuck_22 rfl hl (by decide) rfl (fun ls hl => ?_)
    refine lv_aload_n E.1 E.2.1 dX10_stuck_23 rfl (lv_at hl 1 rfl) ?_
    refine t_get E G 10 7 (rfl : ro 0 = 10) (C := RX10) (T := TX10) (N := 17) rfl (by decide) (by decide) (by decide) mw_fl_10_55 (v := .ref (ad 56)) (fvl_o (n := 56) rfl) dX10_stuck_24 ?_
    refine t_get E G 2 0 (rfl : ro 56 = 2) (C := RX2) (T := TX2) (N := 5) rfl (by decide) (by decide) (by decide) mw_fl_10_114 (v := .ref (ad 57)) (fvl_o (n := 1) rfl) dX10_stuck_27 ?_
    refine t_get E G 8 7 (rfl : ro 57 = 8) (C := RX8) (T := TX8) (N := 10) rfl (by decide) (by decide) (by decide) mw_fl_10_174 (v := .ref (ad 61)) (fvl_o (n := 4) rfl) dX10_stuck_30 ?_
    refine lv_iload_n E.1 E.2.1 dX10_stuck_33 rfl (lv_at hl 2 rfl) ?_
    refine t_iald E G 25 (rfl : ro 61 = 25) (by decide) (by decide) rfl (n := 5) rfl (iv_vp b9 (by decide) (by decide)) dX10_stuck_34 ?_
    refine lv_topi (fun v13 e14 => ?_)
    have b15 : iv 0 7 v13 := by rw [e14]; exact o.ac 25 (rfl : ro 61 = 25) (by decide) _
    refine lv_istore_n (lv' := [(3, .int v13), (2, .int v10), (0, .ref (ad 0)), (1, .int x1)]) E.1 E.2.1 dX10_stuck_35 rfl hl (by decide) rfl (fun ls hl => ?_)
    refine lv_aload_n E.1 E.2.1 dX10_stuck_36 rfl (lv_at hl 2 rfl) ?_
    refine t_get E G 10 7 (rfl : ro 0 = 10) (C := RX10) (T := TX10) (N := 17) rfl (by decide) (by decide) (by decide) mw_fl_10_55 (v := .ref (ad 56)) (fvl_o (n := 56) rfl) dX10_stuck_37 ?_
    refine t_get E G 2 0 (rfl : ro 56 = 2) (C := RX2) (T := TX2) (N := 5) rfl (by decide) (by decide) (by decide) mw_fl_10_114 (v := .ref (ad 57)) (fvl_o (n := 1) rfl) dX10_stuck_40 ?_
    refine lv_iload_n E.1 E.2.1 dX10_stuck_43 rfl (lv_at hl 3 rfl) ?_
    refine lv_iload_n E.1 E.2.1 dX10_stuck_44 rfl (lv_at hl 1 rfl) ?_
    refine t_vi E G hl (t_waysHome l D K ad z o 57 (by decide : at_ 8 57 = true) x1 (iv_mono b9 (by decide) (by decide)) v10 (iv_mono b12 (by decide) (by decide))) 8 (rfl : ro 57 = 8) (by decide) rfl rfl 2 rfl mw_code_X8_waysHome mw_ini_8 mw_ml_10_277 mw_inst_X8_waysHome mw_sel_X8_waysHome hd_X8_waysHome ⟨Nat.le_trans (by decide) hfr, Nat.le_trans (by decide) hlo⟩ rfl rfl rfl (Nat.le_of_ble_eq_true rfl) dX10_stuck_45 (fun r17 zz16 H locs hp18 G => ?_)
    have hz19 := hp18
    rw [hz19] at G
    refine lv_bipush (v := 99) E.1 E.2.1 dX10_stuck_48 (by decide) ?_
    refine lv_icmp_ne (tgt := 55) E.1 E.2.1 dX10_stuck_50 (by decide) (fun c20 => ?_) (fun c20 => ?_)
    · skip
      refine lv_iconst (v := 1) E.1 E.2.1 dX10_stuck_55 (by decide) ?_
      refine lv_iload_n E.1 E.2.1 dX10_stuck_56 rfl (lv_at hl 1 rfl) ?_
      refine lv_ishl E.1 E.2.1 dX10_stuck_57 ?_
      refine lv_topi (fun v21 e22 => ?_)
      have b23 : iv 1 256 v21 := by rw [e22]; exact iv_shl8 (iv_mono b12 (by decide) (by decide))
      refine lv_iconst (v := 1) E.1 E.2.1 dX10_stuck_58 (by decide) ?_
      refine lv_iload_n E.1 E.2.1 dX10_stuck_59 rfl (lv_at hl 0 rfl) ?_
      refine lv_ishl E.1 E.2.1 dX10_stuck_60 ?_
      refine lv_topi (fun v24 e25 => ?_)
      have b26 : iv 1 256 v24 := by rw [e25]; exact iv_shl8 (iv_mono b15 (by decide) (by decide))
      refine lv_ior E.1 E.2.1 dX10_stuck_61 ?_
      refine lv_topi (fun v27 e28 => ?_)
      refine lv_istore (lv' := [(4, .int v27), (3, .int v13), (2, .int v10), (0, .ref (ad 0)), (1, .int x1)]) E.1 E.2.1 dX10_stuck_62 hl (by decide) rfl (fun ls hl => ?_)
      refine lv_iconst (v := 0) E.1 E.2.1 dX10_stuck_64 (by decide) ?_
      refine lv_istore (lv' := [(5, .int 0), (4, .int v27), (3, .int v13), (2, .int v10), (0, .ref (ad 0)), (1, .int x1)]) E.1 E.2.1 dX10_stuck_65 hl (by decide) rfl (fun ls hl => ?_)
      have LOOP67 : ∀ n : Nat, ∀ (y29 : Int32) (y30 : Int32) (H : Heap) (locs : List Loc) (ls : Array Slot), mG D A s H locs (wd K ad z) → iv 0 8 y29 → 8 < y29.toInt + (n : Int) → lv_has ls 6 [(5, .int y29), (4, .int y30), (3, .int v13), (2, .int v10), (0, .ref (ad 0)), (1, .int x1)] → W p l e R s m args below meth c H locs 0 0 Q (F0 m 67 ls []) := by
        intro n
        induction n with
        | zero =>
          intro y29 y30 H locs ls G b35 m34 hl
          exact absurd m34 (by have := b35.1; have := b35.2; omega)
        | succ n ih67 =>
          intro y29 y30 H locs ls G b35 m34 hl
          refine lv_iload E.1 E.2.1 dX10_stuck_67 (lv_at hl 0 rfl) ?_
          refine lv_aload_n E.1 E.2.1 dX10_stuck_69 rfl (lv_at hl 4 rfl) ?_
          refine t_get E G 10 7 (rfl : ro 0 = 10) (C := RX10) (T := TX10) (N := 17) rfl (by decide) (by decide) (by decide) mw_fl_10_55 (v := .ref (ad 56)) (fvl_o (n := 56) rfl) dX10_stuck_70 ?_
          refine t_get E G 2 0 (rfl : ro 56 = 2) (C := RX2) (T := TX2) (N := 5) rfl (by decide) (by decide) (by decide) mw_fl_10_114 (v := .ref (ad 57)) (fvl_o (n := 1) rfl) dX10_stuck_73 ?_
          refine t_get E G 8 0 (rfl : ro 57 = 8) (C := RX8) (T := TX8) (N := 10) rfl (by decide) (by decide) (by decide) mw_fl_10_192 (fvl_i rfl) dX10_stuck_76 ?_
          refine lv_topi (fun v36 e37 => ?_)
          have b38 : iv 0 8 v36 := by rw [e37]; exact o.i 8 0 (rfl : ro 57 = 8)
          refine lv_icmp_ge (tgt := 120) E.1 E.2.1 dX10_stuck_79 (by decide) (fun c39 => ?_) (fun c39 => ?_)
          · skip
            refine lv_iload E.1 E.2.1 dX10_stuck_120 (lv_at hl 1 rfl) ?_
            exact RET G rfl rfl dX10_stuck_122
          · skip
            have b40 : iv 0 7 y29 := lt_l (Int32.not_le.mp c39) b35 b38 (by decide)
            have b41 : iv 1 8 v36 := lt_r (Int32.not_le.mp c39) b35 b38 (by decide)
            refine lv_aload_n E.1 E.2.1 dX10_stuck_82 rfl (lv_at hl 4 rfl) ?_
            refine t_get E G 10 7 (rfl : ro 0 = 10) (C := RX10) (T := TX10) (N := 17) rfl (by decide) (by decide) (by decide) mw_fl_10_55 (v := .ref (ad 56)) (fvl_o (n := 56) rfl) dX10_stuck_83 ?_
            refine t_get E G 2 0 (rfl : ro 56 = 2) (C := RX2) (T := TX2) (N := 5) rfl (by decide) (by decide) (by decide) mw_fl_10_114 (v := .ref (ad 57)) (fvl_o (n := 1) rfl) dX10_stuck_86 ?_
            refine lv_iload_n E.1 E.2.1 dX10_stuck_89 rfl (lv_at hl 3 rfl) ?_
            refine lv_iload_n E.1 E.2.1 dX10_stuck_90 rfl (lv_at hl 2 rfl) ?_
            refine lv_iconst (v := 1) E.1 E.2.1 dX10_stuck_91 (by decide) ?_
            refine lv_iload E.1 E.2.1 dX10_stuck_92 (lv_at hl 0 rfl) ?_
            refine lv_ishl E.1 E.2.1 dX10_stuck_94 ?_
            refine lv_topi (fun v42 e43 => ?_)
            have b44 : iv 1 256 v42 := by rw [e43]; exact iv_shl8 (iv_mono b40 (by decide) (by decide))
            refine lv_iconst (v := (-1)) E.1 E.2.1 dX10_stuck_95 (by decide) ?_
            refine lv_ixor E.1 E.2.1 dX10_stuck_96 ?_
            refine lv_topi (fun v45 e46 => ?_)
            refine t_vi E G hl (t_within l D K ad z o 57 (by decide : at_ 8 57 = true) v10 v13 v45) 8 (rfl : ro 57 = 8) (by decide) rfl rfl 3 rfl mw_code_X8_waysWithin mw_ini_8 mw_ml_10_285 mw_inst_X8_waysWithin mw_sel_X8_waysWithin hd_X8_waysWithin ⟨Nat.le_trans (by decide) hfr, Nat.le_trans (by decide) hlo⟩ rfl rfl rfl (Nat.le_of_ble_eq_true rfl) dX10_stuck_97 (fun r48 zz47 H locs hp49 G => ?_)
            obtain ⟨hz51, b50⟩ := hp49
            rw [hz51] at G
            refine lv_bipush (v := 99) E.1 E.2.1 dX10_stuck_100 (by decide) ?_
            refine lv_icmp_ne (tgt := 114) E.1 E.2.1 dX10_stuck_102 (by decide) (fun c52 => ?_) (fun c52 => ?_)
            · skip
              have b53 : iv 0 98 r48 := ne_hi c52 b50 (by decide) (by decide)
              obtain ⟨v54, e55⟩ : ∃ w : Int32, w = y29 + (1 : Int32) := ⟨_, rfl⟩
              refine lv_iinc (v := v54) (lv' := [(5, .int v54), (4, .int y30), (3, .int v13), (2, .int v10), (0, .ref (ad 0)), (1, .int x1)]) E.1 E.2.1 dX10_stuck_114 hl (k := 0) rfl (by rw [e55]; rfl) (by decide) rfl (fun ls hl => ?_)
              have b56 : iv 1 8 v54 := by rw [e55]; exact iv_add b40 (iv_lit (lo := 1) (hi := 1) 1 (by decide) (by decide)) (by decide) (by decide) (by decide) (by decide)
              have t57 : v54.toInt = y29.toInt + 1 := by rw [e55]; exact ti_addc 1 (by decide) b40 (by decide) (by decide)
              refine lv_goto (tgt := 67) E.1 E.2.1 dX10_stuck_117 (by decide) ?_
              exact ih67 v54 y30 H locs ls G (iv_mono b56 (by decide) (by decide)) (by have := t57; have := m34; omega) (lv_sub hl [0, 1, 2, 3, 4, 5] rfl)
            · skip
              have b58 : iv 99 99 r48 := iv_eq c52 (iv_lit (lo := 99) (hi := 99) 99 (by decide) (by decide))
              refine lv_iload E.1 E.2.1 dX10_stuck_105 (lv_at hl 1 rfl) ?_
              refine lv_iconst (v := 1) E.1 E.2.1 dX10_stuck_107 (by decide) ?_
              refine lv_iload E.1 E.2.1 dX10_stuck_108 (lv_at hl 0 rfl) ?_
              refine lv_ishl E.1 E.2.1 dX10_stuck_110 ?_
              refine lv_topi (fun v59 e60 => ?_)
              have b61 : iv 1 256 v59 := by rw [e60]; exact iv_shl8 (iv_mono b40 (by decide) (by decide))
              refine lv_ior E.1 E.2.1 dX10_stuck_111 ?_
              refine lv_topi (fun v62 e63 => ?_)
              refine lv_istore (lv' := [(4, .int v62), (5, .int y29), (3, .int v13), (2, .int v10), (0, .ref (ad 0)), (1, .int x1)]) E.1 E.2.1 dX10_stuck_112 hl (by decide) rfl (fun ls hl => ?_)
              obtain ⟨v64, e65⟩ : ∃ w : Int32, w = y29 + (1 : Int32) := ⟨_, rfl⟩
              refine lv_iinc (v := v64) (lv' := [(5, .int v64), (4, .int v62), (3, .int v13), (2, .int v10), (0, .ref (ad 0)), (1, .int x1)]) E.1 E.2.1 dX10_stuck_114 hl (k := 1) rfl (by rw [e65]; rfl) (by decide) rfl (fun ls hl => ?_)
              have b66 : iv 1 8 v64 := by rw [e65]; exact iv_add b40 (iv_lit (lo := 1) (hi := 1) 1 (by decide) (by decide)) (by decide) (by decide) (by decide) (by decide)
              have t67 : v64.toInt = y29.toInt + 1 := by rw [e65]; exact ti_addc 1 (by decide) b40 (by decide) (by decide)
              refine lv_goto (tgt := 67) E.1 E.2.1 dX10_stuck_117 (by decide) ?_
              exact ih67 v64 v62 H locs ls G (iv_mono b66 (by decide) (by decide)) (by have := t67; have := m34; omega) (lv_sub hl [0, 1, 2, 3, 4, 5] rfl)
      exact LOOP67 9 0 v27 H locs ls G (iv_mono (iv_lit (lo := 0) (hi := 0) 0 (by decide) (by decide)) (by decide) (by decide)) (by have := (iv_lit (lo := 0) (hi := 0) 0 (by decide) (by decide)).1; omega) (lv_sub hl [0, 1, 2, 3, 4, 5] rfl)
    · skip
      have b68 : iv 99 99 r17 := iv_eq c20 (iv_lit (lo := 99) (hi := 99) 99 (by decide) (by decide))
      refine lv_iconst (v := 0) E.1 E.2.1 dX10_stuck_53 (by decide) ?_
      exact RET G rfl rfl dX10_stuck_54
  · skip
    have b69 : iv 0 0 r2 := iv_eq c7 (iv_lit (lo := 0) (hi := 0) 0 (by decide) (by decide))
    refine lv_iconst (v := (-1)) E.1 E.2.1 dX10_stuck_8 (by decide) ?_
    exact RET G rfl rfl dX10_stuck_9
set_option maxHeartbeats 4000000 in
set_option maxRecDepth 100000 in
theorem k_cover (l : Launch) (D : va_G) (K : Nat → ClassId) (ad : Nat → Nat) (z : TS) (o : Ok z) (x1 : Int32) : cI l yX10_cover cX10_cover 5 .int ({ frames := 1, cells := 0, slots := 0, locals := 22 }) D K ad z [.ref (ad 0), .int x1] (fun r u => u = z) := by
  refine t_enterI (by decide) (Nat.le_of_ble_eq_true rfl) rfl rfl ?_
  intro p e s m args below meth c A R Q H locs ls E hfr hlo RET G hl
  have E : mE p s m meth c cX10_cover args 5 RX10 D K A := E
  have hl : lv_has ls 5 [(0, .ref (ad 0)), (1, .int x1)] := hl
  refine lv_aload_n E.1 E.2.1 dX10_cover_0 rfl (lv_at hl 0 rfl) ?_
  refine t_vi E G hl (h_town l D K ad z o) 10 (rfl : ro 0 = 10) (by decide) rfl rfl 0 rfl mw_code_X10_hasTown mw_ini_10 mw_ml_10_219 mw_inst_X10_hasTown mw_sel_X10_hasTown hd_X10_hasTown ⟨Nat.le_trans (by decide) hfr, Nat.le_trans (by decide) hlo⟩ rfl rfl rfl (Nat.le_of_ble_eq_true rfl) dX10_cover_1 (fun r2 zz1 H locs hp3 G => ?_)
  obtain ⟨hz5, b4⟩ := hp3
  rw [hz5] at G
  refine lv_if_eq (tgt := 16) E.1 E.2.1 dX10_cover_4 (by decide) (fun c6 => ?_) (fun c6 => ?_)
  · skip
    have b7 : iv 0 0 r2 := iv_eq c6 (iv_lit (lo := 0) (hi := 0) 0 (by decide) (by decide))
    refine lv_iconst (v := (-1)) E.1 E.2.1 dX10_cover_16 (by decide) ?_
    exact RET G rfl rfl dX10_cover_17
  · skip
    have b8 : iv 1 1 r2 := ne_lo c6 b4 (by decide) (by decide)
    refine lv_iload_n E.1 E.2.1 dX10_cover_7 rfl (lv_at hl 1 rfl) ?_
    refine lv_if_lt (tgt := 16) E.1 E.2.1 dX10_cover_8 (by decide) (fun c9 => ?_) (fun c9 => ?_)
    · skip
      have b10 : iv (-2147483648) (-1) x1 := lt_l c9 (iv_full x1) (iv_lit (lo := 0) (hi := 0) 0 (by decide) (by decide)) (by decide)
      refine lv_iconst (v := (-1)) E.1 E.2.1 dX10_cover_16 (by decide) ?_
      exact RET G rfl rfl dX10_cover_17
    · skip
      have b11 : iv 0 2147483647 x1 := le_r (Int32.not_lt.mp c9) (iv_lit (lo := 0) (hi := 0) 0 (by decide) (by decide)) (iv_full x1) (by decide)
      refine lv_iload_n E.1 E.2.1 dX10_cover_11 rfl (lv_at hl 1 rfl) ?_
      refine lv_iconst (v := 1) E.1 E.2.1 dX10_cover_12 (by decide) ?_
      refine lv_icmp_le (tgt := 18) E.1 E.2.1 dX10_cover_13 (by decide) (fun c12 => ?_) (fun c12 => ?_)
      · skip
        have b13 : iv 0 1 x1 := le_l c12 b11 (iv_lit (lo := 1) (hi := 1) 1 (by decide) (by decide)) (by decide)
        refine lv_iconst (v := 1) E.1 E.2.1 dX10_cover_18 (by decide) ?_
        refine lv_aload_n E.1 E.2.1 dX10_cover_19 rfl (lv_at hl 0 rfl) ?_
        refine t_get E G 10 7 (rfl : ro 0 = 10) (C := RX10) (T := TX10) (N := 17) rfl (by decide) (by decide) (by decide) mw_fl_10_55 (v := .ref (ad 56)) (fvl_o (n := 56) rfl) dX10_cover_20 ?_
        refine t_get E G 2 0 (rfl : ro 56 = 2) (C := RX2) (T := TX2) (N := 5) rfl (by decide) (by decide) (by decide) mw_fl_10_114 (v := .ref (ad 57)) (fvl_o (n := 1) rfl) dX10_cover_23 ?_
        refine t_get E G 8 0 (rfl : ro 57 = 8) (C := RX8) (T := TX8) (N := 10) rfl (by decide) (by decide) (by decide) mw_fl_10_192 (fvl_i rfl) dX10_cover_26 ?_
        refine lv_topi (fun v14 e15 => ?_)
        have b16 : iv 0 8 v14 := by rw [e15]; exact o.i 8 0 (rfl : ro 57 = 8)
        refine lv_ishl E.1 E.2.1 dX10_cover_29 ?_
        refine lv_topi (fun v17 e18 => ?_)
        have b19 : iv 1 256 v17 := by rw [e18]; exact iv_shl8 (iv_mono b16 (by decide) (by decide))
        refine lv_iconst (v := 1) E.1 E.2.1 dX10_cover_30 (by decide) ?_
        refine lv_isub E.1 E.2.1 dX10_cover_31 ?_
        refine lv_topi (fun v20 e21 => ?_)
        have b22 : iv 0 255 v20 := by rw [e21]; exact iv_sub b19 (iv_lit (lo := 1) (hi := 1) 1 (by decide) (by decide)) (by decide) (by decide) (by decide) (by decide)
        refine lv_istore_n (lv' := [(2, .int v20), (0, .ref (ad 0)), (1, .int x1)]) E.1 E.2.1 dX10_cover_32 rfl hl (by decide) rfl (fun ls hl => ?_)
        refine lv_iload_n E.1 E.2.1 dX10_cover_33 rfl (lv_at hl 0 rfl) ?_
        refine lv_istore_n (lv' := [(3, .int v20), (2, .int v20), (0, .ref (ad 0)), (1, .int x1)]) E.1 E.2.1 dX10_cover_34 rfl hl (by decide) rfl (fun ls hl => ?_)
        refine lv_iconst (v := 0) E.1 E.2.1 dX10_cover_35 (by decide) ?_
        refine lv_istore (lv' := [(4, .int 0), (3, .int v20), (2, .int v20), (0, .ref (ad 0)), (1, .int x1)]) E.1 E.2.1 dX10_cover_36 hl (by decide) rfl (fun ls hl => ?_)
        have LOOP38 : ∀ n : Nat, ∀ (y23 : Int32) (y24 : Int32) (H : Heap) (locs : List Loc) (ls : Array Slot), mG D A s H locs (wd K ad z) → iv 0 255 y23 → 255 < y23.toInt + (n : Int) → lv_has ls 5 [(4, .int y23), (3, .int y24), (2, .int v20), (0, .ref (ad 0)), (1, .int x1)] → W p l e R s m args below meth c H locs 0 0 Q (F0 m 38 ls []) := by
          intro n
          induction n with
          | zero =>
            intro y23 y24 H locs ls G b29 m28 hl
            exact absurd m28 (by have := b29.1; have := b29.2; omega)
          | succ n ih38 =>
            intro y23 y24 H locs ls G b29 m28 hl
            refine lv_iload E.1 E.2.1 dX10_cover_38 (lv_at hl 0 rfl) ?_
            refine lv_iload_n E.1 E.2.1 dX10_cover_40 rfl (lv_at hl 2 rfl) ?_
            refine lv_icmp_ge (tgt := 80) E.1 E.2.1 dX10_cover_41 (by decide) (fun c30 => ?_) (fun c30 => ?_)
            · skip
              refine lv_iload_n E.1 E.2.1 dX10_cover_80 rfl (lv_at hl 4 rfl) ?_
              refine lv_if_ne (tgt := 91) E.1 E.2.1 dX10_cover_81 (by decide) (fun c31 => ?_) (fun c31 => ?_)
              · skip
                have b32 : iv 1 1 x1 := ne_lo c31 b13 (by decide) (by decide)
                refine lv_iload_n E.1 E.2.1 dX10_cover_91 rfl (lv_at hl 1 rfl) ?_
                exact RET G rfl rfl dX10_cover_92
              · skip
                have b33 : iv 0 0 x1 := iv_eq c31 (iv_lit (lo := 0) (hi := 0) 0 (by decide) (by decide))
                refine lv_iload_n E.1 E.2.1 dX10_cover_84 rfl (lv_at hl 1 rfl) ?_
                refine t_si E G hl (j_bitCount l D K ad z o y24) 1 rfl mw_code_J6_bitCount_0f7a4 mw_ini_J6 mw_ml_10_258 mw_stat_J6_bitCount_0f7a4 hd_J6_bitCount_0f7a4 ⟨Nat.le_trans (by decide) hfr, Nat.le_trans (by decide) hlo⟩ rfl rfl rfl (Nat.le_of_ble_eq_true rfl) dX10_cover_85 (fun r35 zz34 H locs hp36 G => ?_)
                have hz37 := hp36
                rw [hz37] at G
                refine lv_goto (tgt := 92) E.1 E.2.1 dX10_cover_88 (by decide) ?_
                exact RET G rfl rfl dX10_cover_92
            · skip
              have b38 : iv 0 254 y23 := lt_l (Int32.not_le.mp c30) b29 b22 (by decide)
              have b39 : iv 1 255 v20 := lt_r (Int32.not_le.mp c30) b29 b22 (by decide)
              refine lv_iload E.1 E.2.1 dX10_cover_44 (lv_at hl 0 rfl) ?_
              refine t_si E G hl (j_bitCount l D K ad z o y23) 1 rfl mw_code_J6_bitCount_0f7a4 mw_ini_J6 mw_ml_10_258 mw_stat_J6_bitCount_0f7a4 hd_J6_bitCount_0f7a4 ⟨Nat.le_trans (by decide) hfr, Nat.le_trans (by decide) hlo⟩ rfl rfl rfl (Nat.le_of_ble_eq_true rfl) dX10_cover_46 (fun r41 zz40 H locs hp42 G => ?_)
              have hz43 := hp42
              rw [hz43] at G
              refine lv_iload_n E.1 E.2.1 dX10_cover_49 rfl (lv_at hl 1 rfl) ?_
              refine t_si E G hl (j_bitCount l D K ad z o y24) 1 rfl mw_code_J6_bitCount_0f7a4 mw_ini_J6 mw_ml_10_258 mw_stat_J6_bitCount_0f7a4 hd_J6_bitCount_0f7a4 ⟨Nat.le_trans (by decide) hfr, Nat.le_trans (by decide) hlo⟩ rfl rfl rfl (Nat.le_of_ble_eq_true rfl) dX10_cover_50 (fun r45 zz44 H locs hp46 G => ?_)
              have hz47 := hp46
              rw [hz47] at G
              refine lv_icmp_ge (tgt := 74) E.1 E.2.1 dX10_cover_53 (by decide) (fun c48 => ?_) (fun c48 => ?_)
              · skip
                obtain ⟨v49, e50⟩ : ∃ w : Int32, w = y23 + (1 : Int32) := ⟨_, rfl⟩
                refine lv_iinc (v := v49) (lv' := [(4, .int v49), (3, .int y24), (2, .int v20), (0, .ref (ad 0)), (1, .int x1)]) E.1 E.2.1 dX10_cover_74 hl (k := 0) rfl (by rw [e50]; rfl) (by decide) rfl (fun ls hl => ?_)
                have b51 : iv 1 255 v49 := by rw [e50]; exact iv_add b38 (iv_lit (lo := 1) (hi := 1) 1 (by decide) (by decide)) (by decide) (by decide) (by decide) (by decide)
                have t52 : v49.toInt = y23.toInt + 1 := by rw [e50]; exact ti_addc 1 (by decide) b38 (by decide) (by decide)
                refine lv_goto (tgt := 38) E.1 E.2.1 dX10_cover_77 (by decide) ?_
                exact ih38 v49 y24 H locs ls G (iv_mono b51 (by decide) (by decide)) (by have := t52; have := m28; omega) (lv_sub hl [0, 1, 2, 3, 4] rfl)
              · skip
                have b53 : iv (-2147483648) 2147483646 r41 := lt_l (Int32.not_le.mp c48) (iv_full r41) (iv_full r45) (by decide)
                have b54 : iv (-2147483647) 2147483647 r45 := lt_r (Int32.not_le.mp c48) (iv_full r41) (iv_full r45) (by decide)
                refine lv_aload_n E.1 E.2.1 dX10_cover_56 rfl (lv_at hl 3 rfl) ?_
                refine t_get E G 10 7 (rfl : ro 0 = 10) (C := RX10) (T := TX10) (N := 17) rfl (by decide) (by decide) (by decide) mw_fl_10_55 (v := .ref (ad 56)) (fvl_o (n := 56) rfl) dX10_cover_57 ?_
                refine t_get E G 2 0 (rfl : ro 56 = 2) (C := RX2) (T := TX2) (N := 5) rfl (by decide) (by decide) (by decide) mw_fl_10_114 (v := .ref (ad 57)) (fvl_o (n := 1) rfl) dX10_cover_60 ?_
                refine lv_iload E.1 E.2.1 dX10_cover_63 (lv_at hl 0 rfl) ?_
                refine t_vi E G hl (t_holds l D K ad z o 57 (by decide : at_ 8 57 = true) y23) 8 (rfl : ro 57 = 8) (by decide) rfl rfl 1 rfl mw_code_X8_holdsAllWays mw_ini_8 mw_ml_10_289 mw_inst_X8_holdsAllWays mw_sel_X8_holdsAllWays hd_X8_holdsAllWays ⟨Nat.le_trans (by decide) hfr, Nat.le_trans (by decide) hlo⟩ rfl rfl rfl (Nat.le_of_ble_eq_true rfl) dX10_cover_65 (fun r56 zz55 H locs hp57 G => ?_)
                obtain ⟨hz59, b58⟩ := hp57
                rw [hz59] at G
                refine lv_if_eq (tgt := 74) E.1 E.2.1 dX10_cover_68 (by decide) (fun c60 => ?_) (fun c60 => ?_)
                · skip
                  have b61 : iv 0 0 r56 := iv_eq c60 (iv_lit (lo := 0) (hi := 0) 0 (by decide) (by decide))
                  obtain ⟨v62, e63⟩ : ∃ w : Int32, w = y23 + (1 : Int32) := ⟨_, rfl⟩
                  refine lv_iinc (v := v62) (lv' := [(4, .int v62), (3, .int y24), (2, .int v20), (0, .ref (ad 0)), (1, .int x1)]) E.1 E.2.1 dX10_cover_74 hl (k := 0) rfl (by rw [e63]; rfl) (by decide) rfl (fun ls hl => ?_)
                  have b64 : iv 1 255 v62 := by rw [e63]; exact iv_add b38 (iv_lit (lo := 1) (hi := 1) 1 (by decide) (by decide)) (by decide) (by decide) (by decide) (by decide)
                  have t65 : v62.toInt = y23.toInt + 1 := by rw [e63]; exact ti_addc 1 (by decide) b38 (by decide) (by decide)
                  refine lv_goto (tgt := 38) E.1 E.2.1 dX10_cover_77 (by decide) ?_
                  exact ih38 v62 y24 H locs ls G (iv_mono b64 (by decide) (by decide)) (by have := t65; have := m28; omega) (lv_sub hl [0, 1, 2, 3, 4] rfl)
                · skip
                  have b66 : iv 1 1 r56 := ne_lo c60 b58 (by decide) (by decide)
                  refine lv_iload E.1 E.2.1 dX10_cover_71 (lv_at hl 0 rfl) ?_
                  refine lv_istore_n (lv' := [(3, .int y23), (4, .int y23), (2, .int v20), (0, .ref (ad 0)), (1, .int x1)]) E.1 E.2.1 dX10_cover_73 rfl hl (by decide) rfl (fun ls hl => ?_)
                  obtain ⟨v67, e68⟩ : ∃ w : Int32, w = y23 + (1 : Int32) := ⟨_, rfl⟩
                  refine lv_iinc (v := v67) (lv' := [(4, .int v67), (3, .int y23), (2, .int v20), (0, .ref (ad 0)), (1, .int x1)]) E.1 E.2.1 dX10_cover_74 hl (k := 1) rfl (by rw [e68]; rfl) (by decide) rfl (fun ls hl => ?_)
                  have b69 : iv 1 255 v67 := by rw [e68]; exact iv_add b38 (iv_lit (lo := 1) (hi := 1) 1 (by decide) (by decide)) (by decide) (by decide) (by decide) (by decide)
                  have t70 : v67.toInt = y23.toInt + 1 := by rw [e68]; exact ti_addc 1 (by decide) b38 (by decide) (by decide)
                  refine lv_goto (tgt := 38) E.1 E.2.1 dX10_cover_77 (by decide) ?_
                  exact ih38 v67 y23 H locs ls G (iv_mono b69 (by decide) (by decide)) (by have := t70; have := m28; omega) (lv_sub hl [0, 1, 2, 3, 4] rfl)
        exact LOOP38 256 0 v20 H locs ls G (iv_mono (iv_lit (lo := 0) (hi := 0) 0 (by decide) (by decide)) (by decide) (by decide)) (by have := (iv_lit (lo := 0) (hi := 0) 0 (by decide) (by decide)).1; omega) (lv_sub hl [0, 1, 2, 3, 4] rfl)
      · skip
        have b71 : iv 2 2147483647 x1 := lt_r (Int32.not_le.mp c12) (iv_lit (lo := 1) (hi := 1) 1 (by decide) (by decide)) b11 (by decide)
        refine lv_iconst (v := (-1)) E.1 E.2.1 dX10_cover_16 (by decide) ?_
        exact RET G rfl rfl dX10_cover_17
set_option maxHeartbeats 4000000 in
set_option maxRecDepth 100000 in
theorem k_drawn (l : Launch) (D : va_G) (K : Nat → ClassId) (ad : Nat → Nat) (z : TS) (o : Ok z) (w1 : Int64) : cL l yX10_drawn cX10_drawn 2 ({ frames := 0, cells := 0, slots := 0, locals := 0 }) D K ad z [.long w1] (fun r u => u = z) := by
  refine t_enterL (by decide) (Nat.le_of_ble_eq_true rfl) rfl rfl ?_
  intro p e s m args below meth c A R Q H locs ls E hfr hlo RET G hl
  have E : mE p s m meth c cX10_drawn args 2 RX10 D K A := E
  have hl : lv_has ls 2 [(0, .long w1)] := hl
  refine lv_lload_n E.1 E.2.1 dX10_drawn_0 rfl (lv_at hl 0 rfl) ?_
  refine lv_ldc2 (v := 1103515245) E.1 E.2.1 E.2.2.2.1 (E.2.2.2.2.1 _ mw_cL_10_271) dX10_drawn_1 ?_
  refine lv_lmul E.1 E.2.1 dX10_drawn_4 ?_
  refine lv_topl (fun v1 _ => ?_)
  refine lv_ldc2 (v := 12345) E.1 E.2.1 E.2.2.2.1 (E.2.2.2.2.1 _ mw_cL_10_273) dX10_drawn_5 ?_
  refine lv_ladd E.1 E.2.1 dX10_drawn_8 ?_
  refine lv_topl (fun v2 _ => ?_)
  refine lv_ldc2 (v := 2147483648) E.1 E.2.1 E.2.2.2.1 (E.2.2.2.2.1 _ mw_cL_10_275) dX10_drawn_9 ?_
  refine lv_lrem E.1 E.2.1 dX10_drawn_12 (by decide) ?_
  refine lv_topl (fun v3 _ => ?_)
  exact RET G rfl dX10_drawn_13
