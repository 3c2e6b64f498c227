theorem mw_cL_11_369 : (Cond.constantLong RX11 369 (100) : Cond) ∈ cw := cw_of (List.mem_append_right _ (List.mem_append_right _ (List.mem_append_right _ (List.mem_append_right _ (List.mem_append_right _ (List.mem_append_right _ (List.mem_append_right _ (List.mem_append_left _ (List.mem_of_getElem? (i := 70) (by decide +kernel)))))))))) (by decide +kernel)
theorem mw_cL_11_371 : (Cond.constantLong RX11 371 (2) : Cond) ∈ cw := cw_of (List.mem_append_right _ (List.mem_append_right _ (List.mem_append_right _ (List.mem_append_right _ (List.mem_append_right _ (List.mem_append_right _ (List.mem_append_right _ (List.mem_append_left _ (List.mem_of_getElem? (i := 71) (by decide +kernel)))))))))) (by decide +kernel)
theorem mw_code_X11_keeps : (Cond.code yX11_keeps cX11_keeps 2 none : Cond) ∈ cw := cw_of (List.mem_append_right _ (List.mem_append_right _ (List.mem_append_right _ (List.mem_append_right _ (List.mem_append_right _ (List.mem_append_right _ (List.mem_append_right _ (List.mem_append_left _ (List.mem_of_getElem? (i := 75) rfl))))))))) (by decide +kernel)
theorem mw_code_X11_laysBack : (Cond.code yX11_laysBack cX11_laysBack 2 none : Cond) ∈ cw := cw_of (List.mem_append_right _ (List.mem_append_right _ (List.mem_append_right _ (List.mem_append_right _ (List.mem_append_right _ (List.mem_append_right _ (List.mem_append_right _ (List.mem_append_left _ (List.mem_of_getElem? (i := 87) rfl))))))))) (by decide +kernel)
theorem mw_code_X11_leastOf : (Cond.code yX11_leastOf cX11_leastOf 2 (some .int) : Cond) ∈ cw := cw_of (List.mem_append_right _ (List.mem_append_right _ (List.mem_append_right _ (List.mem_append_right _ (List.mem_append_right _ (List.mem_append_right _ (List.mem_append_right _ (List.mem_append_left _ (List.mem_of_getElem? (i := 98) rfl))))))))) (by decide +kernel)
theorem mw_code_X11_passesAll : (Cond.code yX11_passesAll cX11_passesAll 3 none : Cond) ∈ cw := cw_of (List.mem_append_right _ (List.mem_append_right _ (List.mem_append_right _ (List.mem_append_right _ (List.mem_append_right _ (List.mem_append_right _ (List.mem_append_right _ (List.mem_append_left _ (List.mem_of_getElem? (i := 79) rfl))))))))) (by decide +kernel)
theorem mw_inst_X11_keeps : (Cond.instanceMethod yX11_keeps : Cond) ∈ cw := cw_of (List.mem_append_right _ (List.mem_append_right _ (List.mem_append_right _ (List.mem_append_right _ (List.mem_append_right _ (List.mem_append_right _ (List.mem_append_right _ (List.mem_append_left _ (List.mem_of_getElem? (i := 74) (by decide +kernel)))))))))) (by decide +kernel)
theorem mw_inst_X11_laysBack : (Cond.instanceMethod yX11_laysBack : Cond) ∈ cw := cw_of (List.mem_append_right _ (List.mem_append_right _ (List.mem_append_right _ (List.mem_append_right _ (List.mem_append_right _ (List.mem_append_right _ (List.mem_append_right _ (List.mem_append_left _ (List.mem_of_getElem? (i := 86) (by decide +kernel)))))))))) (by decide +kernel)
theorem mw_inst_X11_passesAll : (Cond.instanceMethod yX11_passesAll : Cond) ∈ cw := cw_of (List.mem_append_right _ (List.mem_append_right _ (List.mem_append_right _ (List.mem_append_right _ (List.mem_append_right _ (List.mem_append_right _ (List.mem_append_right _ (List.mem_append_left _ (List.mem_of_getElem? (i := 78) (by decide +kernel)))))))))) (by decide +kernel)
theorem mw_ml_11_373 : (Cond.methodLink RX11 373 yX11_keeps : Cond) ∈ cw := cw_of (List.mem_append_right _ (List.mem_append_right _ (List.mem_append_right _ (List.mem_append_right _ (List.mem_append_right _ (List.mem_append_right _ (List.mem_append_right _ (List.mem_append_left _ (List.mem_of_getElem? (i := 72) (by decide +kernel)))))))))) (by decide +kernel)
theorem mw_ml_11_376 : (Cond.methodLink RX11 376 yX11_passesAll : Cond) ∈ cw := cw_of (List.mem_append_right _ (List.mem_append_right _ (List.mem_append_right _ (List.mem_append_right _ (List.mem_append_right _ (List.mem_append_right _ (List.mem_append_right _ (List.mem_append_left _ (List.mem_of_getElem? (i := 76) (by decide +kernel)))))))))) (by decide +kernel)
theorem mw_ml_11_382 : (Cond.methodLink RX11 382 yX11_laysBack : Cond) ∈ cw := cw_of (List.mem_append_right _ (List.mem_append_right _ (List.mem_append_right _ (List.mem_append_right _ (List.mem_append_right _ (List.mem_append_right _ (List.mem_append_right _ (List.mem_append_left _ (List.mem_of_getElem? (i := 84) (by decide +kernel)))))))))) (by decide +kernel)
theorem mw_ml_11_385 : (Cond.methodLink RX11 385 yX11_leastOf : Cond) ∈ cw := cw_of (List.mem_append_right _ (List.mem_append_right _ (List.mem_append_right _ (List.mem_append_right _ (List.mem_append_right _ (List.mem_append_right _ (List.mem_append_right _ (List.mem_append_left _ (List.mem_of_getElem? (i := 96) (by decide +kernel)))))))))) (by decide +kernel)
theorem mw_sel_X11_keeps : (Cond.selects RX11 yX11_keeps yX11_keeps : Cond) ∈ cw := cw_of (List.mem_append_left _ (List.mem_of_getElem? (i := 106) (by decide +kernel))) (by decide +kernel)
theorem mw_sel_X11_laysBack : (Cond.selects RX11 yX11_laysBack yX11_laysBack : Cond) ∈ cw := cw_of (List.mem_append_left _ (List.mem_of_getElem? (i := 109) (by decide +kernel))) (by decide +kernel)
theorem mw_sel_X11_passesAll : (Cond.selects RX11 yX11_passesAll yX11_passesAll : Cond) ∈ cw := cw_of (List.mem_append_left _ (List.mem_of_getElem? (i := 107) (by decide +kernel))) (by decide +kernel)
theorem mw_stat_X11_leastOf : (Cond.static yX11_leastOf : Cond) ∈ cw := cw_of (List.mem_append_right _ (List.mem_append_right _ (List.mem_append_right _ (List.mem_append_right _ (List.mem_append_right _ (List.mem_append_right _ (List.mem_append_right _ (List.mem_append_left _ (List.mem_of_getElem? (i := 97) (by decide +kernel)))))))))) (by decide +kernel)
theorem dX11_ahead_0 : decode cX11_ahead 0 = .ok (.aload_n 0, 1) := by decide +kernel
theorem dX11_ahead_1 : decode cX11_ahead 1 = .ok (.invokevirtual 359, 3) := by decide +kernel
theorem dX11_ahead_4 : decode cX11_ahead 4 = .ok (.ifCond .eq 40, 3) := by decide +kernel
theorem dX11_ahead_7 : decode cX11_ahead 7 = .ok (.iload_n 2, 1) := by decide +kernel
theorem dX11_ahead_8 : decode cX11_ahead 8 = .ok (.i2l, 1) := by decide +kernel
theorem dX11_ahead_9 : decode cX11_ahead 9 = .ok (.lconst 0, 1) := by decide +kernel
theorem dX11_ahead_10 : decode cX11_ahead 10 = .ok (.ldc2_w 369, 3) := by decide +kernel
theorem dX11_ahead_13 : decode cX11_ahead 13 = .ok (.invokestatic 121, 3) := by decide +kernel
theorem dX11_ahead_16 : decode cX11_ahead 16 = .ok (.ifCond .eq 28, 3) := by decide +kernel
theorem dX11_ahead_19 : decode cX11_ahead 19 = .ok (.iload_n 3, 1) := by decide +kernel
theorem dX11_ahead_20 : decode cX11_ahead 20 = .ok (.i2l, 1) := by decide +kernel
theorem dX11_ahead_21 : decode cX11_ahead 21 = .ok (.lconst 0, 1) := by decide +kernel
theorem dX11_ahead_22 : decode cX11_ahead 22 = .ok (.ldc2_w 371, 3) := by decide +kernel
theorem dX11_ahead_25 : decode cX11_ahead 25 = .ok (.invokestatic 121, 3) := by decide +kernel
theorem dX11_ahead_28 : decode cX11_ahead 28 = .ok (.ifCond .eq 16, 3) := by decide +kernel
theorem dX11_ahead_31 : decode cX11_ahead 31 = .ok (.iload_n 3, 1) := by decide +kernel
theorem dX11_ahead_32 : decode cX11_ahead 32 = .ok (.iconst 2, 1) := by decide +kernel
theorem dX11_ahead_33 : decode cX11_ahead 33 = .ok (.if_icmp .ge 13, 3) := by decide +kernel
theorem dX11_ahead_36 : decode cX11_ahead 36 = .ok (.aload_n 0, 1) := by decide +kernel
theorem dX11_ahead_37 : decode cX11_ahead 37 = .ok (.iload_n 1, 1) := by decide +kernel
theorem dX11_ahead_38 : decode cX11_ahead 38 = .ok (.invokevirtual 317, 3) := by decide +kernel
theorem dX11_ahead_41 : decode cX11_ahead 41 = .ok (.ifCond .ne 5, 3) := by decide +kernel
theorem dX11_ahead_44 : decode cX11_ahead 44 = .ok (.iconst (-1), 1) := by decide +kernel
theorem dX11_ahead_45 : decode cX11_ahead 45 = .ok (.ireturn, 1) := by decide +kernel
theorem dX11_ahead_46 : decode cX11_ahead 46 = .ok (.aload_n 0, 1) := by decide +kernel
theorem dX11_ahead_47 : decode cX11_ahead 47 = .ok (.invokevirtual 373, 3) := by decide +kernel
theorem dX11_ahead_50 : decode cX11_ahead 50 = .ok (.aload_n 0, 1) := by decide +kernel
theorem dX11_ahead_51 : decode cX11_ahead 51 = .ok (.iload_n 2, 1) := by decide +kernel
theorem dX11_ahead_52 : decode cX11_ahead 52 = .ok (.invokevirtual 376, 3) := by decide +kernel
theorem dX11_ahead_55 : decode cX11_ahead 55 = .ok (.iload_n 3, 1) := by decide +kernel
theorem dX11_ahead_56 : decode cX11_ahead 56 = .ok (.ifCond .ne 11, 3) := by decide +kernel
theorem dX11_ahead_59 : decode cX11_ahead 59 = .ok (.aload_n 0, 1) := by decide +kernel
theorem dX11_ahead_60 : decode cX11_ahead 60 = .ok (.iload_n 1, 1) := by decide +kernel
theorem dX11_ahead_61 : decode cX11_ahead 61 = .ok (.invokevirtual 291, 3) := by decide +kernel
theorem dX11_ahead_64 : decode cX11_ahead 64 = .ok (.goto 20, 3) := by decide +kernel
theorem dX11_ahead_67 : decode cX11_ahead 67 = .ok (.iload_n 3, 1) := by decide +kernel
theorem dX11_ahead_68 : decode cX11_ahead 68 = .ok (.iconst 1, 1) := by decide +kernel
theorem dX11_ahead_69 : decode cX11_ahead 69 = .ok (.if_icmp .ne 11, 3) := by decide +kernel
theorem dX11_ahead_72 : decode cX11_ahead 72 = .ok (.aload_n 0, 1) := by decide +kernel
theorem dX11_ahead_73 : decode cX11_ahead 73 = .ok (.iload_n 1, 1) := by decide +kernel
theorem dX11_ahead_74 : decode cX11_ahead 74 = .ok (.invokevirtual 294, 3) := by decide +kernel
theorem dX11_ahead_77 : decode cX11_ahead 77 = .ok (.goto 7, 3) := by decide +kernel
theorem dX11_ahead_80 : decode cX11_ahead 80 = .ok (.aload_n 0, 1) := by decide +kernel
theorem dX11_ahead_81 : decode cX11_ahead 81 = .ok (.invokevirtual 379, 3) := by decide +kernel
theorem dX11_ahead_84 : decode cX11_ahead 84 = .ok (.istore 4, 2) := by decide +kernel
theorem dX11_ahead_86 : decode cX11_ahead 86 = .ok (.aload_n 0, 1) := by decide +kernel
theorem dX11_ahead_87 : decode cX11_ahead 87 = .ok (.invokevirtual 382, 3) := by decide +kernel
theorem dX11_ahead_90 : decode cX11_ahead 90 = .ok (.iload 4, 2) := by decide +kernel
theorem dX11_ahead_92 : decode cX11_ahead 92 = .ok (.ireturn, 1) := by decide +kernel
theorem dX11_chargesIn_0 : decode cX11_chargesIn 0 = .ok (.aload_n 0, 1) := by decide +kernel
theorem dX11_chargesIn_1 : decode cX11_chargesIn 1 = .ok (.iload_n 1, 1) := by decide +kernel
theorem dX11_chargesIn_2 : decode cX11_chargesIn 2 = .ok (.invokevirtual 376, 3) := by decide +kernel
theorem dX11_chargesIn_5 : decode cX11_chargesIn 5 = .ok (.aload_n 0, 1) := by decide +kernel
theorem dX11_chargesIn_6 : decode cX11_chargesIn 6 = .ok (.invokevirtual 394, 3) := by decide +kernel
theorem dX11_chargesIn_9 : decode cX11_chargesIn 9 = .ok (.istore_n 2, 1) := by decide +kernel
theorem dX11_chargesIn_10 : decode cX11_chargesIn 10 = .ok (.aload_n 0, 1) := by decide +kernel
theorem dX11_chargesIn_11 : decode cX11_chargesIn 11 = .ok (.invokevirtual 382, 3) := by decide +kernel
theorem dX11_chargesIn_14 : decode cX11_chargesIn 14 = .ok (.iload_n 2, 1) := by decide +kernel
theorem dX11_chargesIn_15 : decode cX11_chargesIn 15 = .ok (.ireturn, 1) := by decide +kernel
theorem dX11_first_0 : decode cX11_first 0 = .ok (.aload_n 0, 1) := by decide +kernel
theorem dX11_first_1 : decode cX11_first 1 = .ok (.invokevirtual 359, 3) := by decide +kernel
theorem dX11_first_4 : decode cX11_first 4 = .ok (.ifCond .eq 13, 3) := by decide +kernel
theorem dX11_first_7 : decode cX11_first 7 = .ok (.iload_n 1, 1) := by decide +kernel
theorem dX11_first_8 : decode cX11_first 8 = .ok (.i2l, 1) := by decide +kernel
theorem dX11_first_9 : decode cX11_first 9 = .ok (.lconst 0, 1) := by decide +kernel
theorem dX11_first_10 : decode cX11_first 10 = .ok (.lconst 1, 1) := by decide +kernel
theorem dX11_first_11 : decode cX11_first 11 = .ok (.invokestatic 121, 3) := by decide +kernel
theorem dX11_first_14 : decode cX11_first 14 = .ok (.ifCond .ne 5, 3) := by decide +kernel
theorem dX11_first_17 : decode cX11_first 17 = .ok (.iconst (-1), 1) := by decide +kernel
theorem dX11_first_18 : decode cX11_first 18 = .ok (.ireturn, 1) := by decide +kernel
theorem dX11_first_19 : decode cX11_first 19 = .ok (.bipush (-2), 2) := by decide +kernel
theorem dX11_first_21 : decode cX11_first 21 = .ok (.istore_n 2, 1) := by decide +kernel
theorem dX11_first_22 : decode cX11_first 22 = .ok (.aload_n 0, 1) := by decide +kernel
theorem dX11_first_23 : decode cX11_first 23 = .ok (.invokevirtual 373, 3) := by decide +kernel
theorem dX11_first_26 : decode cX11_first 26 = .ok (.iconst 0, 1) := by decide +kernel
theorem dX11_first_27 : decode cX11_first 27 = .ok (.istore_n 3, 1) := by decide +kernel
theorem dX11_first_28 : decode cX11_first 28 = .ok (.iload_n 3, 1) := by decide +kernel
theorem dX11_first_29 : decode cX11_first 29 = .ok (.sipush 200, 3) := by decide +kernel
theorem dX11_first_32 : decode cX11_first 32 = .ok (.if_icmp .ge 46, 3) := by decide +kernel
theorem dX11_first_35 : decode cX11_first 35 = .ok (.iload_n 2, 1) := by decide +kernel
theorem dX11_first_36 : decode cX11_first 36 = .ok (.ifCond .ge 42, 3) := by decide +kernel
theorem dX11_first_39 : decode cX11_first 39 = .ok (.aload_n 0, 1) := by decide +kernel
theorem dX11_first_40 : decode cX11_first 40 = .ok (.invokevirtual 356, 3) := by decide +kernel
theorem dX11_first_43 : decode cX11_first 43 = .ok (.istore 4, 2) := by decide +kernel
theorem dX11_first_45 : decode cX11_first 45 = .ok (.iload 4, 2) := by decide +kernel
theorem dX11_first_47 : decode cX11_first 47 = .ok (.ifCond .eq 25, 3) := by decide +kernel
theorem dX11_first_50 : decode cX11_first 50 = .ok (.iload_n 1, 1) := by decide +kernel
theorem dX11_first_51 : decode cX11_first 51 = .ok (.ifCond .ne 15, 3) := by decide +kernel
theorem dX11_first_54 : decode cX11_first 54 = .ok (.aload_n 0, 1) := by decide +kernel
theorem dX11_first_55 : decode cX11_first 55 = .ok (.getfield 39, 3) := by decide +kernel
theorem dX11_first_58 : decode cX11_first 58 = .ok (.bipush 10, 2) := by decide +kernel
theorem dX11_first_60 : decode cX11_first 60 = .ok (.iaload, 1) := by decide +kernel
theorem dX11_first_61 : decode cX11_first 61 = .ok (.iconst 1, 1) := by decide +kernel
theorem dX11_first_62 : decode cX11_first 62 = .ok (.isub, 1) := by decide +kernel
theorem dX11_first_63 : decode cX11_first 63 = .ok (.goto 8, 3) := by decide +kernel
theorem dX11_first_66 : decode cX11_first 66 = .ok (.iload 4, 2) := by decide +kernel
theorem dX11_first_68 : decode cX11_first 68 = .ok (.invokestatic 385, 3) := by decide +kernel
theorem dX11_first_71 : decode cX11_first 71 = .ok (.istore_n 2, 1) := by decide +kernel
theorem dX11_first_72 : decode cX11_first 72 = .ok (.iinc 3 1, 3) := by decide +kernel
theorem dX11_first_75 : decode cX11_first 75 = .ok (.goto (-47), 3) := by decide +kernel
theorem dX11_first_78 : decode cX11_first 78 = .ok (.aload_n 0, 1) := by decide +kernel
theorem dX11_first_79 : decode cX11_first 79 = .ok (.invokevirtual 382, 3) := by decide +kernel
theorem dX11_first_82 : decode cX11_first 82 = .ok (.iload_n 2, 1) := by decide +kernel
theorem dX11_first_83 : decode cX11_first 83 = .ok (.ireturn, 1) := by decide +kernel
theorem dX11_had_0 : decode cX11_had 0 = .ok (.aload_n 0, 1) := by decide +kernel
theorem dX11_had_1 : decode cX11_had 1 = .ok (.iload_n 1, 1) := by decide +kernel
theorem dX11_had_2 : decode cX11_had 2 = .ok (.invokevirtual 317, 3) := by decide +kernel
theorem dX11_had_5 : decode cX11_had 5 = .ok (.ifCond .eq 13, 3) := by decide +kernel
theorem dX11_had_8 : decode cX11_had 8 = .ok (.iload_n 2, 1) := by decide +kernel
theorem dX11_had_9 : decode cX11_had 9 = .ok (.i2l, 1) := by decide +kernel
theorem dX11_had_10 : decode cX11_had 10 = .ok (.lconst 0, 1) := by decide +kernel
theorem dX11_had_11 : decode cX11_had 11 = .ok (.lconst 1, 1) := by decide +kernel
theorem dX11_had_12 : decode cX11_had 12 = .ok (.invokestatic 121, 3) := by decide +kernel
theorem dX11_had_15 : decode cX11_had 15 = .ok (.ifCond .ne 5, 3) := by decide +kernel
theorem dX11_had_18 : decode cX11_had 18 = .ok (.iconst (-1), 1) := by decide +kernel
theorem dX11_had_19 : decode cX11_had 19 = .ok (.ireturn, 1) := by decide +kernel
theorem dX11_had_20 : decode cX11_had 20 = .ok (.bipush (-2), 2) := by decide +kernel
theorem dX11_had_22 : decode cX11_had 22 = .ok (.istore_n 3, 1) := by decide +kernel
theorem dX11_had_23 : decode cX11_had 23 = .ok (.aload_n 0, 1) := by decide +kernel
theorem dX11_had_24 : decode cX11_had 24 = .ok (.invokevirtual 373, 3) := by decide +kernel
theorem dX11_had_27 : decode cX11_had 27 = .ok (.iconst 0, 1) := by decide +kernel
theorem dX11_had_28 : decode cX11_had 28 = .ok (.istore 4, 2) := by decide +kernel
theorem dX11_had_30 : decode cX11_had 30 = .ok (.iload 4, 2) := by decide +kernel
theorem dX11_had_32 : decode cX11_had 32 = .ok (.sipush 200, 3) := by decide +kernel
theorem dX11_had_35 : decode cX11_had 35 = .ok (.if_icmp .ge 47, 3) := by decide +kernel
theorem dX11_had_38 : decode cX11_had 38 = .ok (.iload_n 3, 1) := by decide +kernel
theorem dX11_had_39 : decode cX11_had 39 = .ok (.ifCond .ge 43, 3) := by decide +kernel
theorem dX11_had_42 : decode cX11_had 42 = .ok (.aload_n 0, 1) := by decide +kernel
theorem dX11_had_43 : decode cX11_had 43 = .ok (.invokevirtual 356, 3) := by decide +kernel
theorem dX11_had_46 : decode cX11_had 46 = .ok (.iload_n 1, 1) := by decide +kernel
theorem dX11_had_47 : decode cX11_had 47 = .ok (.invokestatic 297, 3) := by decide +kernel
theorem dX11_had_50 : decode cX11_had 50 = .ok (.ifCond .eq 26, 3) := by decide +kernel
theorem dX11_had_53 : decode cX11_had 53 = .ok (.iload_n 2, 1) := by decide +kernel
theorem dX11_had_54 : decode cX11_had 54 = .ok (.ifCond .ne 15, 3) := by decide +kernel
theorem dX11_had_57 : decode cX11_had 57 = .ok (.aload_n 0, 1) := by decide +kernel
theorem dX11_had_58 : decode cX11_had 58 = .ok (.getfield 39, 3) := by decide +kernel
theorem dX11_had_61 : decode cX11_had 61 = .ok (.bipush 10, 2) := by decide +kernel
theorem dX11_had_63 : decode cX11_had 63 = .ok (.iaload, 1) := by decide +kernel
theorem dX11_had_64 : decode cX11_had 64 = .ok (.iconst 1, 1) := by decide +kernel
theorem dX11_had_65 : decode cX11_had 65 = .ok (.isub, 1) := by decide +kernel
theorem dX11_had_66 : decode cX11_had 66 = .ok (.goto 9, 3) := by decide +kernel
theorem dX11_had_69 : decode cX11_had 69 = .ok (.aload_n 0, 1) := by decide +kernel
theorem dX11_had_70 : decode cX11_had 70 = .ok (.getfield 49, 3) := by decide +kernel
theorem dX11_had_73 : decode cX11_had 73 = .ok (.iload_n 1, 1) := by decide +kernel
theorem dX11_had_74 : decode cX11_had 74 = .ok (.iaload, 1) := by decide +kernel
theorem dX11_had_75 : decode cX11_had 75 = .ok (.istore_n 3, 1) := by decide +kernel
theorem dX11_had_76 : decode cX11_had 76 = .ok (.iinc 4 1, 3) := by decide +kernel
theorem dX11_had_79 : decode cX11_had 79 = .ok (.goto (-49), 3) := by decide +kernel
theorem dX11_had_82 : decode cX11_had 82 = .ok (.aload_n 0, 1) := by decide +kernel
theorem dX11_had_83 : decode cX11_had 83 = .ok (.invokevirtual 382, 3) := by decide +kernel
theorem dX11_had_86 : decode cX11_had 86 = .ok (.iload_n 3, 1) := by decide +kernel
theorem dX11_had_87 : decode cX11_had 87 = .ok (.ireturn, 1) := by decide +kernel
theorem hd_X11_keeps : yX11_keeps.cls ≠ "java/lang/invoke/MethodHandle" ∧ yX11_keeps.cls ≠ "java/lang/invoke/VarHandle" ∧ (parseMethodDescriptor yX11_keeps.desc).map (fun d => d.parameters.length) = some 0 := ⟨by decide +kernel, by decide +kernel, by decide +kernel⟩
theorem hd_X11_laysBack : yX11_laysBack.cls ≠ "java/lang/invoke/MethodHandle" ∧ yX11_laysBack.cls ≠ "java/lang/invoke/VarHandle" ∧ (parseMethodDescriptor yX11_laysBack.desc).map (fun d => d.parameters.length) = some 0 := ⟨by decide +kernel, by decide +kernel, by decide +kernel⟩
theorem hd_X11_leastOf : yX11_leastOf.cls ≠ "java/lang/invoke/MethodHandle" ∧ yX11_leastOf.cls ≠ "java/lang/invoke/VarHandle" ∧ (parseMethodDescriptor yX11_leastOf.desc).map (fun d => d.parameters.length) = some 1 := ⟨by decide +kernel, by decide +kernel, by decide +kernel⟩
theorem hd_X11_passesAll : yX11_passesAll.cls ≠ "java/lang/invoke/MethodHandle" ∧ yX11_passesAll.cls ≠ "java/lang/invoke/VarHandle" ∧ (parseMethodDescriptor yX11_passesAll.desc).map (fun d => d.parameters.length) = some 1 := ⟨by decide +kernel, by decide +kernel, by decide +kernel⟩
set_option maxHeartbeats 4000000 in
set_option maxRecDepth 100000 in
theorem v_ahead (l : Launch) (D : va_G) (K : Nat → ClassId) (ad : Nat → Nat) (z : TS) (o : Ok z) (x1 : Int32) (x2 : Int32) (x3 : Int32) (wf : WFc z) : cI l yX11_ahead cX11_ahead 5 .int ({ frames := 8, cells := 0, slots := 0, locals := 190 }) D K ad z [.ref (ad 386), .int x1, .int x2, .int x3] (fun r u => Ok u ∧ KM z u) := by
  refine t_enterI (by decide) (Nat.le_of_ble_eq_true rfl) rfl rfl ?_
  intro p e s m args below meth c A R Q H locs ls E hfr hlo RET G hl
  have E : mE p s m meth c cX11_ahead args 5 RX11 D K A := E
  have hl : lv_has ls 5 [(0, .ref (ad 386)), (1, .int x1), (2, .int x2), (3, .int x3)] := hl
  refine lv_aload_n E.1 E.2.1 dX11_ahead_0 rfl (lv_at hl 0 rfl) ?_
  refine t_vi E G hl (v_isTown l D K ad z o) 11 (rfl : ro 386 = 11) (by decide) rfl rfl 0 rfl mw_code_X11_isTown mw_ini_11 mw_ml_11_359 mw_inst_X11_isTown mw_sel_X11_isTown hd_X11_isTown ⟨Nat.le_trans (by decide) hfr, Nat.le_trans (by decide) hlo⟩ rfl rfl rfl (Nat.le_of_ble_eq_true rfl) dX11_ahead_1 (fun r2 zz1 H locs hp3 G => ?_)
  obtain ⟨hz5, b4⟩ := hp3
  rw [hz5] at G
  refine lv_if_eq (tgt := 44) E.1 E.2.1 dX11_ahead_4 (by decide) (fun c6 => ?_) (fun c6 => ?_)
  · skip
    have b7 : iv 0 0 r2 := iv_eq c6 (iv_lit (lo := 0) (hi := 0) 0 (by decide) (by decide))
    refine lv_iconst (v := (-1)) E.1 E.2.1 dX11_ahead_44 (by decide) ?_
    exact RET G ⟨o, KF.rf⟩ rfl dX11_ahead_45
  · skip
    have b8 : iv 1 1 r2 := ne_lo c6 b4 (by decide) (by decide)
    refine lv_iload_n E.1 E.2.1 dX11_ahead_7 rfl (lv_at hl 2 rfl) ?_
    refine lv_i2l E.1 E.2.1 dX11_ahead_8 rfl ?_
    refine lv_topl (fun v9 e10 => ?_)
    refine lv_lconst (v := 0) E.1 E.2.1 dX11_ahead_9 (by decide) ?_
    refine lv_ldc2 (v := 100) E.1 E.2.1 E.2.2.2.1 (E.2.2.2.2.1 _ mw_cL_11_369) dX11_ahead_10 ?_
    refine t_si E G hl (v_in l D K ad z o v9 0 100) 3 rfl mw_code_X11_in mw_ini_11 mw_ml_11_121 mw_stat_X11_in hd_X11_in ⟨Nat.le_trans (by decide) hfr, Nat.le_trans (by decide) hlo⟩ rfl rfl rfl (Nat.le_of_ble_eq_true rfl) dX11_ahead_13 (fun r12 zz11 H locs hp13 G => ?_)
    obtain ⟨hz16, b14, h15⟩ := hp13
    rw [hz16] at G
    refine lv_if_eq (tgt := 44) E.1 E.2.1 dX11_ahead_16 (by decide) (fun c17 => ?_) (fun c17 => ?_)
    · skip
      have b18 : iv 0 0 r12 := iv_eq c17 (iv_lit (lo := 0) (hi := 0) 0 (by decide) (by decide))
      refine lv_iconst (v := (-1)) E.1 E.2.1 dX11_ahead_44 (by decide) ?_
      exact RET G ⟨o, KF.rf⟩ rfl dX11_ahead_45
    · skip
      have b19 : iv 1 1 r12 := ne_lo c17 b14 (by decide) (by decide)
      have b20 : iv 0 100 x2 := (fun q => in_iv e10 (h15 q) (by decide) (by decide)) c17
      refine lv_iload_n E.1 E.2.1 dX11_ahead_19 rfl (lv_at hl 3 rfl) ?_
      refine lv_i2l E.1 E.2.1 dX11_ahead_20 rfl ?_
      refine lv_topl (fun v21 e22 => ?_)
      refine lv_lconst (v := 0) E.1 E.2.1 dX11_ahead_21 (by decide) ?_
      refine lv_ldc2 (v := 2) E.1 E.2.1 E.2.2.2.1 (E.2.2.2.2.1 _ mw_cL_11_371) dX11_ahead_22 ?_
      refine t_si E G hl (v_in l D K ad z o v21 0 2) 3 rfl mw_code_X11_in mw_ini_11 mw_ml_11_121 mw_stat_X11_in hd_X11_in ⟨Nat.le_trans (by decide) hfr, Nat.le_trans (by decide) hlo⟩ rfl rfl rfl (Nat.le_of_ble_eq_true rfl) dX11_ahead_25 (fun r24 zz23 H locs hp25 G => ?_)
      obtain ⟨hz28, b26, h27⟩ := hp25
      rw [hz28] at G
      refine lv_if_eq (tgt := 44) E.1 E.2.1 dX11_ahead_28 (by decide) (fun c29 => ?_) (fun c29 => ?_)
      · skip
        have b30 : iv 0 0 r24 := iv_eq c29 (iv_lit (lo := 0) (hi := 0) 0 (by decide) (by decide))
        refine lv_iconst (v := (-1)) E.1 E.2.1 dX11_ahead_44 (by decide) ?_
        exact RET G ⟨o, KF.rf⟩ rfl dX11_ahead_45
      · skip
        have b31 : iv 1 1 r24 := ne_lo c29 b26 (by decide) (by decide)
        have b32 : iv 0 2 x3 := (fun q => in_iv e22 (h27 q) (by decide) (by decide)) c29
        refine lv_iload_n E.1 E.2.1 dX11_ahead_31 rfl (lv_at hl 3 rfl) ?_
        refine lv_iconst (v := 2) E.1 E.2.1 dX11_ahead_32 (by decide) ?_
        refine lv_icmp_ge (tgt := 46) E.1 E.2.1 dX11_ahead_33 (by decide) (fun c33 => ?_) (fun c33 => ?_)
        · skip
          have b34 : iv 2 2 x3 := le_r c33 (iv_lit (lo := 2) (hi := 2) 2 (by decide) (by decide)) b32 (by decide)
          refine lv_aload_n E.1 E.2.1 dX11_ahead_46 rfl (lv_at hl 0 rfl) ?_
          refine t_vv E G hl (v_keeps l D K ad z o) 11 (rfl : ro 386 = 11) (by decide) rfl rfl 0 rfl mw_code_X11_keeps mw_ini_11 mw_ml_11_373 mw_inst_X11_keeps mw_sel_X11_keeps hd_X11_keeps ⟨Nat.le_trans (by decide) hfr, Nat.le_trans (by decide) hlo⟩ rfl rfl rfl (Nat.le_of_ble_eq_true rfl) dX11_ahead_47 (fun zz35 H locs hp37 G => ?_)
          obtain ⟨oo38, kk39⟩ := hp37
          have kk40 : KM z zz35 := KF.tr KF.rf kk39
          refine lv_aload_n E.1 E.2.1 dX11_ahead_50 rfl (lv_at hl 0 rfl) ?_
          refine lv_iload_n E.1 E.2.1 dX11_ahead_51 rfl (lv_at hl 2 rfl) ?_
          refine t_vv E G hl (v_passesAll l D K ad zz35 oo38 x2 (iv_mono b20 (by decide) (by decide)) (wf_ka wf kk40.2.1 rfl rfl rfl rfl)) 11 (rfl : ro 386 = 11) (by decide) rfl rfl 1 rfl mw_code_X11_passesAll mw_ini_11 mw_ml_11_376 mw_inst_X11_passesAll mw_sel_X11_passesAll hd_X11_passesAll ⟨Nat.le_trans (by decide) hfr, Nat.le_trans (by decide) hlo⟩ rfl rfl rfl (Nat.le_of_ble_eq_true rfl) dX11_ahead_52 (fun zz41 H locs hp43 G => ?_)
          obtain ⟨oo44, kk45⟩ := hp43
          have kk46 : KM z zz41 := KF.tr kk40 kk45
          refine lv_iload_n E.1 E.2.1 dX11_ahead_55 rfl (lv_at hl 3 rfl) ?_
          refine lv_if_ne (tgt := 67) E.1 E.2.1 dX11_ahead_56 (by decide) (fun _ => ?_) (fun h => absurd h (ivne2 b34 (iv_lit (lo := 0) (hi := 0) 0 (by decide) (by decide)) (by decide)))
          refine lv_iload_n E.1 E.2.1 dX11_ahead_67 rfl (lv_at hl 3 rfl) ?_
          refine lv_iconst (v := 1) E.1 E.2.1 dX11_ahead_68 (by decide) ?_
          refine lv_icmp_ne (tgt := 80) E.1 E.2.1 dX11_ahead_69 (by decide) (fun _ => ?_) (fun h => absurd h (ivne2 b34 (iv_lit (lo := 1) (hi := 1) 1 (by decide) (by decide)) (by decide)))
          refine lv_aload_n E.1 E.2.1 dX11_ahead_80 rfl (lv_at hl 0 rfl) ?_
          refine t_vi E G hl (v_laidOnes l D K ad zz41 oo44) 11 (rfl : ro 386 = 11) (by decide) rfl rfl 0 rfl mw_code_X11_laidOnes mw_ini_11 mw_ml_11_379 mw_inst_X11_laidOnes mw_sel_X11_laidOnes hd_X11_laidOnes ⟨Nat.le_trans (by decide) hfr, Nat.le_trans (by decide) hlo⟩ rfl rfl rfl (Nat.le_of_ble_eq_true rfl) dX11_ahead_81 (fun r48 zz47 H locs hp49 G => ?_)
          have hz50 := hp49
          rw [hz50] at G
          refine lv_istore (lv' := [(4, .int r48), (0, .ref (ad 386)), (1, .int x1), (2, .int x2), (3, .int x3)]) E.1 E.2.1 dX11_ahead_84 hl (by decide) rfl (fun ls hl => ?_)
          refine lv_aload_n E.1 E.2.1 dX11_ahead_86 rfl (lv_at hl 1 rfl) ?_
          refine t_vv E G hl (v_laysBack l D K ad zz41 oo44) 11 (rfl : ro 386 = 11) (by decide) rfl rfl 0 rfl mw_code_X11_laysBack mw_ini_11 mw_ml_11_382 mw_inst_X11_laysBack mw_sel_X11_laysBack hd_X11_laysBack ⟨Nat.le_trans (by decide) hfr, Nat.le_trans (by decide) hlo⟩ rfl rfl rfl (Nat.le_of_ble_eq_true rfl) dX11_ahead_87 (fun zz51 H locs hp53 G => ?_)
          obtain ⟨oo54, kk55⟩ := hp53
          have kk56 : KM z zz51 := KF.tr kk46 kk55
          refine lv_iload E.1 E.2.1 dX11_ahead_90 (lv_at hl 0 rfl) ?_
          exact RET G ⟨oo54, kk56⟩ rfl dX11_ahead_92
        · skip
          have b57 : iv 0 1 x3 := lt_l (Int32.not_le.mp c33) b32 (iv_lit (lo := 2) (hi := 2) 2 (by decide) (by decide)) (by decide)
          refine lv_aload_n E.1 E.2.1 dX11_ahead_36 rfl (lv_at hl 0 rfl) ?_
          refine lv_iload_n E.1 E.2.1 dX11_ahead_37 rfl (lv_at hl 1 rfl) ?_
          refine t_vi E G hl (v_isWalker l D K ad z o x1) 11 (rfl : ro 386 = 11) (by decide) rfl rfl 1 rfl mw_code_X11_isWalker mw_ini_11 mw_ml_11_317 mw_inst_X11_isWalker mw_sel_X11_isWalker hd_X11_isWalker ⟨Nat.le_trans (by decide) hfr, Nat.le_trans (by decide) hlo⟩ rfl rfl rfl (Nat.le_of_ble_eq_true rfl) dX11_ahead_38 (fun r59 zz58 H locs hp60 G => ?_)
          obtain ⟨hz63, b61, h62⟩ := hp60
          rw [hz63] at G
          refine lv_if_ne (tgt := 46) E.1 E.2.1 dX11_ahead_41 (by decide) (fun c64 => ?_) (fun c64 => ?_)
          · skip
            have b65 : iv 1 1 r59 := ne_lo c64 b61 (by decide) (by decide)
            have b66 : iv 0 4 x1 := h62 c64
            refine lv_aload_n E.1 E.2.1 dX11_ahead_46 rfl (lv_at hl 0 rfl) ?_
            refine t_vv E G hl (v_keeps l D K ad z o) 11 (rfl : ro 386 = 11) (by decide) rfl rfl 0 rfl mw_code_X11_keeps mw_ini_11 mw_ml_11_373 mw_inst_X11_keeps mw_sel_X11_keeps hd_X11_keeps ⟨Nat.le_trans (by decide) hfr, Nat.le_trans (by decide) hlo⟩ rfl rfl rfl (Nat.le_of_ble_eq_true rfl) dX11_ahead_47 (fun zz67 H locs hp69 G => ?_)
            obtain ⟨oo70, kk71⟩ := hp69
            have kk72 : KM z zz67 := KF.tr KF.rf kk71
            refine lv_aload_n E.1 E.2.1 dX11_ahead_50 rfl (lv_at hl 0 rfl) ?_
            refine lv_iload_n E.1 E.2.1 dX11_ahead_51 rfl (lv_at hl 2 rfl) ?_
            refine t_vv E G hl (v_passesAll l D K ad zz67 oo70 x2 (iv_mono b20 (by decide) (by decide)) (wf_ka wf kk72.2.1 rfl rfl rfl rfl)) 11 (rfl : ro 386 = 11) (by decide) rfl rfl 1 rfl mw_code_X11_passesAll mw_ini_11 mw_ml_11_376 mw_inst_X11_passesAll mw_sel_X11_passesAll hd_X11_passesAll ⟨Nat.le_trans (by decide) hfr, Nat.le_trans (by decide) hlo⟩ rfl rfl rfl (Nat.le_of_ble_eq_true rfl) dX11_ahead_52 (fun zz73 H locs hp75 G => ?_)
            obtain ⟨oo76, kk77⟩ := hp75
            have kk78 : KM z zz73 := KF.tr kk72 kk77
            refine lv_iload_n E.1 E.2.1 dX11_ahead_55 rfl (lv_at hl 3 rfl) ?_
            refine lv_if_ne (tgt := 67) E.1 E.2.1 dX11_ahead_56 (by decide) (fun c79 => ?_) (fun c79 => ?_)
            · skip
              have b80 : iv 1 1 x3 := ne_lo c79 b57 (by decide) (by decide)
              refine lv_iload_n E.1 E.2.1 dX11_ahead_67 rfl (lv_at hl 3 rfl) ?_
              refine lv_iconst (v := 1) E.1 E.2.1 dX11_ahead_68 (by decide) ?_
              refine lv_icmp_ne (tgt := 80) E.1 E.2.1 dX11_ahead_69 (by decide) (fun c81 => ?_) (fun c81 => ?_)
              · skip
                refine lv_aload_n E.1 E.2.1 dX11_ahead_80 rfl (lv_at hl 0 rfl) ?_
                refine t_vi E G hl (v_laidOnes l D K ad zz73 oo76) 11 (rfl : ro 386 = 11) (by decide) rfl rfl 0 rfl mw_code_X11_laidOnes mw_ini_11 mw_ml_11_379 mw_inst_X11_laidOnes mw_sel_X11_laidOnes hd_X11_laidOnes ⟨Nat.le_trans (by decide) hfr, Nat.le_trans (by decide) hlo⟩ rfl rfl rfl (Nat.le_of_ble_eq_true rfl) dX11_ahead_81 (fun r83 zz82 H locs hp84 G => ?_)
                have hz85 := hp84
                rw [hz85] at G
                refine lv_istore (lv' := [(4, .int r83), (0, .ref (ad 386)), (1, .int x1), (2, .int x2), (3, .int x3)]) E.1 E.2.1 dX11_ahead_84 hl (by decide) rfl (fun ls hl => ?_)
                refine lv_aload_n E.1 E.2.1 dX11_ahead_86 rfl (lv_at hl 1 rfl) ?_
                refine t_vv E G hl (v_laysBack l D K ad zz73 oo76) 11 (rfl : ro 386 = 11) (by decide) rfl rfl 0 rfl mw_code_X11_laysBack mw_ini_11 mw_ml_11_382 mw_inst_X11_laysBack mw_sel_X11_laysBack hd_X11_laysBack ⟨Nat.le_trans (by decide) hfr, Nat.le_trans (by decide) hlo⟩ rfl rfl rfl (Nat.le_of_ble_eq_true rfl) dX11_ahead_87 (fun zz86 H locs hp88 G => ?_)
                obtain ⟨oo89, kk90⟩ := hp88
                have kk91 : KM z zz86 := KF.tr kk78 kk90
                refine lv_iload E.1 E.2.1 dX11_ahead_90 (lv_at hl 0 rfl) ?_
                exact RET G ⟨oo89, kk91⟩ rfl dX11_ahead_92
              · skip
                refine lv_aload_n E.1 E.2.1 dX11_ahead_72 rfl (lv_at hl 0 rfl) ?_
                refine lv_iload_n E.1 E.2.1 dX11_ahead_73 rfl (lv_at hl 1 rfl) ?_
                refine t_vi E G hl (v_chargeOf l D K ad zz73 oo76 x1 (iv_mono b66 (by decide) (by decide))) 11 (rfl : ro 386 = 11) (by decide) rfl rfl 1 rfl mw_code_X11_chargeOf mw_ini_11 mw_ml_11_294 mw_inst_X11_chargeOf mw_sel_X11_chargeOf hd_X11_chargeOf ⟨Nat.le_trans (by decide) hfr, Nat.le_trans (by decide) hlo⟩ rfl rfl rfl (Nat.le_of_ble_eq_true rfl) dX11_ahead_74 (fun r93 zz92 H locs hp94 G => ?_)
                have hz95 := hp94
                rw [hz95] at G
                refine lv_goto (tgt := 84) E.1 E.2.1 dX11_ahead_77 (by decide) ?_
                refine lv_istore (lv' := [(4, .int r93), (0, .ref (ad 386)), (1, .int x1), (2, .int x2), (3, .int x3)]) E.1 E.2.1 dX11_ahead_84 hl (by decide) rfl (fun ls hl => ?_)
                refine lv_aload_n E.1 E.2.1 dX11_ahead_86 rfl (lv_at hl 1 rfl) ?_
                refine t_vv E G hl (v_laysBack l D K ad zz73 oo76) 11 (rfl : ro 386 = 11) (by decide) rfl rfl 0 rfl mw_code_X11_laysBack mw_ini_11 mw_ml_11_382 mw_inst_X11_laysBack mw_sel_X11_laysBack hd_X11_laysBack ⟨Nat.le_trans (by decide) hfr, Nat.le_trans (by decide) hlo⟩ rfl rfl rfl (Nat.le_of_ble_eq_true rfl) dX11_ahead_87 (fun zz96 H locs hp98 G => ?_)
                obtain ⟨oo99, kk100⟩ := hp98
                have kk101 : KM z zz96 := KF.tr kk78 kk100
                refine lv_iload E.1 E.2.1 dX11_ahead_90 (lv_at hl 0 rfl) ?_
                exact RET G ⟨oo99, kk101⟩ rfl dX11_ahead_92
            · skip
              have b102 : iv 0 0 x3 := iv_eq c79 (iv_lit (lo := 0) (hi := 0) 0 (by decide) (by decide))
              refine lv_aload_n E.1 E.2.1 dX11_ahead_59 rfl (lv_at hl 0 rfl) ?_
              refine lv_iload_n E.1 E.2.1 dX11_ahead_60 rfl (lv_at hl 1 rfl) ?_
              refine t_vi E G hl (v_cornerOf l D K ad zz73 oo76 x1 (iv_mono b66 (by decide) (by decide))) 11 (rfl : ro 386 = 11) (by decide) rfl rfl 1 rfl mw_code_X11_cornerOf mw_ini_11 mw_ml_11_291 mw_inst_X11_cornerOf mw_sel_X11_cornerOf hd_X11_cornerOf ⟨Nat.le_trans (by decide) hfr, Nat.le_trans (by decide) hlo⟩ rfl rfl rfl (Nat.le_of_ble_eq_true rfl) dX11_ahead_61 (fun r104 zz103 H locs hp105 G => ?_)
              obtain ⟨hz107, b106⟩ := hp105
              rw [hz107] at G
              refine lv_goto (tgt := 84) E.1 E.2.1 dX11_ahead_64 (by decide) ?_
              refine lv_istore (lv' := [(4, .int r104), (0, .ref (ad 386)), (1, .int x1), (2, .int x2), (3, .int x3)]) E.1 E.2.1 dX11_ahead_84 hl (by decide) rfl (fun ls hl => ?_)
              refine lv_aload_n E.1 E.2.1 dX11_ahead_86 rfl (lv_at hl 1 rfl) ?_
              refine t_vv E G hl (v_laysBack l D K ad zz73 oo76) 11 (rfl : ro 386 = 11) (by decide) rfl rfl 0 rfl mw_code_X11_laysBack mw_ini_11 mw_ml_11_382 mw_inst_X11_laysBack mw_sel_X11_laysBack hd_X11_laysBack ⟨Nat.le_trans (by decide) hfr, Nat.le_trans (by decide) hlo⟩ rfl rfl rfl (Nat.le_of_ble_eq_true rfl) dX11_ahead_87 (fun zz108 H locs hp110 G => ?_)
              obtain ⟨oo111, kk112⟩ := hp110
              have kk113 : KM z zz108 := KF.tr kk78 kk112
              refine lv_iload E.1 E.2.1 dX11_ahead_90 (lv_at hl 0 rfl) ?_
              exact RET G ⟨oo111, kk113⟩ rfl dX11_ahead_92
          · skip
            have b114 : iv 0 0 r59 := iv_eq c64 (iv_lit (lo := 0) (hi := 0) 0 (by decide) (by decide))
            refine lv_iconst (v := (-1)) E.1 E.2.1 dX11_ahead_44 (by decide) ?_
            exact RET G ⟨o, KF.rf⟩ rfl dX11_ahead_45
set_option maxHeartbeats 4000000 in
set_option maxRecDepth 100000 in
theorem v_had (l : Launch) (D : va_G) (K : Nat → ClassId) (ad : Nat → Nat) (z : TS) (o : Ok z) (x1 : Int32) (x2 : Int32) (wf : WFc z) : cI l yX11_had cX11_had 5 .int ({ frames := 7, cells := 0, slots := 0, locals := 168 }) D K ad z [.ref (ad 386), .int x1, .int x2] (fun r u => Ok u ∧ KM z u) := by
  refine t_enterI (by decide) (Nat.le_of_ble_eq_true rfl) rfl rfl ?_
  intro p e s m args below meth c A R Q H locs ls E hfr hlo RET G hl
  have E : mE p s m meth c cX11_had args 5 RX11 D K A := E
  have hl : lv_has ls 5 [(0, .ref (ad 386)), (1, .int x1), (2, .int x2)] := hl
  refine lv_aload_n E.1 E.2.1 dX11_had_0 rfl (lv_at hl 0 rfl) ?_
  refine lv_iload_n E.1 E.2.1 dX11_had_1 rfl (lv_at hl 1 rfl) ?_
  refine t_vi E G hl (v_isWalker l D K ad z o x1) 11 (rfl : ro 386 = 11) (by decide) rfl rfl 1 rfl mw_code_X11_isWalker mw_ini_11 mw_ml_11_317 mw_inst_X11_isWalker mw_sel_X11_isWalker hd_X11_isWalker ⟨Nat.le_trans (by decide) hfr, Nat.le_trans (by decide) hlo⟩ rfl rfl rfl (Nat.le_of_ble_eq_true rfl) dX11_had_2 (fun r2 zz1 H locs hp3 G => ?_)
  obtain ⟨hz6, b4, h5⟩ := hp3
  rw [hz6] at G
  refine lv_if_eq (tgt := 18) E.1 E.2.1 dX11_had_5 (by decide) (fun c7 => ?_) (fun c7 => ?_)
  · skip
    have b8 : iv 0 0 r2 := iv_eq c7 (iv_lit (lo := 0) (hi := 0) 0 (by decide) (by decide))
    refine lv_iconst (v := (-1)) E.1 E.2.1 dX11_had_18 (by decide) ?_
    exact RET G ⟨o, KF.rf⟩ rfl dX11_had_19
  · skip
    have b9 : iv 1 1 r2 := ne_lo c7 b4 (by decide) (by decide)
    have b10 : iv 0 4 x1 := h5 c7
    refine lv_iload_n E.1 E.2.1 dX11_had_8 rfl (lv_at hl 2 rfl) ?_
    refine lv_i2l E.1 E.2.1 dX11_had_9 rfl ?_
    refine lv_topl (fun v11 e12 => ?_)
    refine lv_lconst (v := 0) E.1 E.2.1 dX11_had_10 (by decide) ?_
    refine lv_lconst (v := 1) E.1 E.2.1 dX11_had_11 (by decide) ?_
    refine t_si E G hl (v_in l D K ad z o v11 0 1) 3 rfl mw_code_X11_in mw_ini_11 mw_ml_11_121 mw_stat_X11_in hd_X11_in ⟨Nat.le_trans (by decide) hfr, Nat.le_trans (by decide) hlo⟩ rfl rfl rfl (Nat.le_of_ble_eq_true rfl) dX11_had_12 (fun r14 zz13 H locs hp15 G => ?_)
    obtain ⟨hz18, b16, h17⟩ := hp15
    rw [hz18] at G
    refine lv_if_ne (tgt := 20) E.1 E.2.1 dX11_had_15 (by decide) (fun c19 => ?_) (fun c19 => ?_)
    · skip
      have b20 : iv 1 1 r14 := ne_lo c19 b16 (by decide) (by decide)
      have b21 : iv 0 1 x2 := (fun q => in_iv e12 (h17 q) (by decide) (by decide)) c19
      refine lv_bipush (v := (-2)) E.1 E.2.1 dX11_had_20 (by decide) ?_
      refine lv_istore_n (lv' := [(3, .int (-2)), (0, .ref (ad 386)), (1, .int x1), (2, .int x2)]) E.1 E.2.1 dX11_had_22 rfl hl (by decide) rfl (fun ls hl => ?_)
      refine lv_aload_n E.1 E.2.1 dX11_had_23 rfl (lv_at hl 1 rfl) ?_
      refine t_vv E G hl (v_keeps l D K ad z o) 11 (rfl : ro 386 = 11) (by decide) rfl rfl 0 rfl mw_code_X11_keeps mw_ini_11 mw_ml_11_373 mw_inst_X11_keeps mw_sel_X11_keeps hd_X11_keeps ⟨Nat.le_trans (by decide) hfr, Nat.le_trans (by decide) hlo⟩ rfl rfl rfl (Nat.le_of_ble_eq_true rfl) dX11_had_24 (fun zz22 H locs hp24 G => ?_)
      obtain ⟨oo25, kk26⟩ := hp24
      have kk27 : KM z zz22 := KF.tr KF.rf kk26
      refine lv_iconst (v := 0) E.1 E.2.1 dX11_had_27 (by decide) ?_
      refine lv_istore (lv' := [(4, .int 0), (3, .int (-2)), (0, .ref (ad 386)), (1, .int x1), (2, .int x2)]) E.1 E.2.1 dX11_had_28 hl (by decide) rfl (fun ls hl => ?_)
      have LOOP30 : ∀ n : Nat, ∀ (zz30 : TS) (y28 : Int32) (y29 : Int32) (H : Heap) (locs : List Loc) (ls : Array Slot), mG D A s H locs (wd K ad zz30) → Ok zz30 → KM z zz30 → iv 0 200 y28 → 200 < y28.toInt + (n : Int) → lv_has ls 5 [(4, .int y28), (3, .int y29), (0, .ref (ad 386)), (1, .int x1), (2, .int x2)] → W p l e R s m args below meth c H locs 0 0 Q (F0 m 30 ls []) := by
        intro n
        induction n with
        | zero =>
          intro zz30 y28 y29 H locs ls G oo31 kk32 b34 m33 hl
          exact absurd m33 (by have := b34.1; have := b34.2; omega)
        | succ n ih30 =>
          intro zz30 y28 y29 H locs ls G oo31 kk32 b34 m33 hl
          refine lv_iload E.1 E.2.1 dX11_had_30 (lv_at hl 0 rfl) ?_
          refine lv_sipush (v := 200) E.1 E.2.1 dX11_had_32 (by decide) ?_
          refine lv_icmp_ge (tgt := 82) E.1 E.2.1 dX11_had_35 (by decide) (fun c35 => ?_) (fun c35 => ?_)
          · skip
            have b36 : iv 200 200 y28 := le_r c35 (iv_lit (lo := 200) (hi := 200) 200 (by decide) (by decide)) b34 (by decide)
            refine lv_aload_n E.1 E.2.1 dX11_had_82 rfl (lv_at hl 2 rfl) ?_
            refine t_vv E G hl (v_laysBack l D K ad zz30 oo31) 11 (rfl : ro 386 = 11) (by decide) rfl rfl 0 rfl mw_code_X11_laysBack mw_ini_11 mw_ml_11_382 mw_inst_X11_laysBack mw_sel_X11_laysBack hd_X11_laysBack ⟨Nat.le_trans (by decide) hfr, Nat.le_trans (by decide) hlo⟩ rfl rfl rfl (Nat.le_of_ble_eq_true rfl) dX11_had_83 (fun zz37 H locs hp39 G => ?_)
            obtain ⟨oo40, kk41⟩ := hp39
            have kk42 : KM z zz37 := KF.tr kk32 kk41
            refine lv_iload_n E.1 E.2.1 dX11_had_86 rfl (lv_at hl 1 rfl) ?_
            exact RET G ⟨oo40, kk42⟩ rfl dX11_had_87
          · skip
            have b43 : iv 0 199 y28 := lt_l (Int32.not_le.mp c35) b34 (iv_lit (lo := 200) (hi := 200) 200 (by decide) (by decide)) (by decide)
            refine lv_iload_n E.1 E.2.1 dX11_had_38 rfl (lv_at hl 1 rfl) ?_
            refine lv_if_ge (tgt := 82) E.1 E.2.1 dX11_had_39 (by decide) (fun c44 => ?_) (fun c44 => ?_)
            · skip
              have b45 : iv 0 2147483647 y29 := le_r c44 (iv_lit (lo := 0) (hi := 0) 0 (by decide) (by decide)) (iv_full y29) (by decide)
              refine lv_aload_n E.1 E.2.1 dX11_had_82 rfl (lv_at hl 2 rfl) ?_
              refine t_vv E G hl (v_laysBack l D K ad zz30 oo31) 11 (rfl : ro 386 = 11) (by decide) rfl rfl 0 rfl mw_code_X11_laysBack mw_ini_11 mw_ml_11_382 mw_inst_X11_laysBack mw_sel_X11_laysBack hd_X11_laysBack ⟨Nat.le_trans (by decide) hfr, Nat.le_trans (by decide) hlo⟩ rfl rfl rfl (Nat.le_of_ble_eq_true rfl) dX11_had_83 (fun zz46 H locs hp48 G => ?_)
              obtain ⟨oo49, kk50⟩ := hp48
              have kk51 : KM z zz46 := KF.tr kk32 kk50
              refine lv_iload_n E.1 E.2.1 dX11_had_86 rfl (lv_at hl 1 rfl) ?_
              exact RET G ⟨oo49, kk51⟩ rfl dX11_had_87
            · skip
              have b52 : iv (-2147483648) (-1) y29 := lt_l (Int32.not_le.mp c44) (iv_full y29) (iv_lit (lo := 0) (hi := 0) 0 (by decide) (by decide)) (by decide)
              refine lv_aload_n E.1 E.2.1 dX11_had_42 rfl (lv_at hl 2 rfl) ?_
              refine t_vi E G hl (v_passes l D K ad zz30 oo31 (wf_ka wf kk32.2.1 rfl rfl rfl rfl)) 11 (rfl : ro 386 = 11) (by decide) rfl rfl 0 rfl mw_code_X11_passes mw_ini_11 mw_ml_11_356 mw_inst_X11_passes mw_sel_X11_passes hd_X11_passes ⟨Nat.le_trans (by decide) hfr, Nat.le_trans (by decide) hlo⟩ rfl rfl rfl (Nat.le_of_ble_eq_true rfl) dX11_had_43 (fun r54 zz53 H locs hp55 G => ?_)
              obtain ⟨oo56, kk57⟩ := hp55
              have kk58 : KM z zz53 := KF.tr kk32 kk57
              refine lv_iload_n E.1 E.2.1 dX11_had_46 rfl (lv_at hl 3 rfl) ?_
              refine t_si E G hl (v_isOf l D K ad zz53 oo56 r54 x1) 2 rfl mw_code_X11_isOf mw_ini_11 mw_ml_11_297 mw_stat_X11_isOf hd_X11_isOf ⟨Nat.le_trans (by decide) hfr, Nat.le_trans (by decide) hlo⟩ rfl rfl rfl (Nat.le_of_ble_eq_true rfl) dX11_had_47 (fun r60 zz59 H locs hp61 G => ?_)
              obtain ⟨hz63, b62⟩ := hp61
              rw [hz63] at G
              refine lv_if_eq (tgt := 76) E.1 E.2.1 dX11_had_50 (by decide) (fun c64 => ?_) (fun c64 => ?_)
              · skip
                have b65 : iv 0 0 r60 := iv_eq c64 (iv_lit (lo := 0) (hi := 0) 0 (by decide) (by decide))
                obtain ⟨v66, e67⟩ : ∃ w : Int32, w = y28 + (1 : Int32) := ⟨_, rfl⟩
                refine lv_iinc (v := v66) (lv' := [(4, .int v66), (3, .int y29), (0, .ref (ad 386)), (1, .int x1), (2, .int x2)]) E.1 E.2.1 dX11_had_76 hl (k := 0) rfl (by rw [e67]; rfl) (by decide) rfl (fun ls hl => ?_)
                have b68 : iv 1 200 v66 := by rw [e67]; exact iv_add b43 (iv_lit (lo := 1) (hi := 1) 1 (by decide) (by decide)) (by decide) (by decide) (by decide) (by decide)
                have t69 : v66.toInt = y28.toInt + 1 := by rw [e67]; exact ti_addc 1 (by decide) b43 (by decide) (by decide)
                refine lv_goto (tgt := 30) E.1 E.2.1 dX11_had_79 (by decide) ?_
                exact ih30 zz53 v66 y29 H locs ls G oo56 kk58 (iv_mono b68 (by decide) (by decide)) (by have := t69; have := m33; omega) (lv_sub hl [0, 1, 2, 3, 4] rfl)
              · skip
                have b70 : iv 1 1 r60 := ne_lo c64 b62 (by decide) (by decide)
                refine lv_iload_n E.1 E.2.1 dX11_had_53 rfl (lv_at hl 4 rfl) ?_
                refine lv_if_ne (tgt := 69) E.1 E.2.1 dX11_had_54 (by decide) (fun c71 => ?_) (fun c71 => ?_)
                · skip
                  have b72 : iv 1 1 x2 := ne_lo c71 b21 (by decide) (by decide)
                  refine lv_aload_n E.1 E.2.1 dX11_had_69 rfl (lv_at hl 2 rfl) ?_
                  refine t_get E G 11 24 (rfl : ro 386 = 11) (C := RX11) (T := TX11) (N := 37) rfl (by decide) (by decide) (by decide) mw_fl_11_49 (v := .ref (ad 398)) (fvl_o (n := 12) rfl) dX11_had_70 ?_
                  refine lv_iload_n E.1 E.2.1 dX11_had_73 rfl (lv_at hl 3 rfl) ?_
                  refine t_iald E G 56 (rfl : ro 398 = 56) (by decide) (by decide) rfl (n := 5) rfl (iv_vp b10 (by decide) (by decide)) dX11_had_74 ?_
                  refine lv_topi (fun v73 e74 => ?_)
                  have b75 : iv (-1) 5 v73 := by rw [e74]; exact iv_mono (rd_u oo56 56 (rfl : ro 398 = 56) (by decide) _) (by decide) (by decide)
                  refine lv_istore_n (lv' := [(3, .int v73), (4, .int y28), (0, .ref (ad 386)), (1, .int x1), (2, .int x2)]) E.1 E.2.1 dX11_had_75 rfl hl (by decide) rfl (fun ls hl => ?_)
                  obtain ⟨v76, e77⟩ : ∃ w : Int32, w = y28 + (1 : Int32) := ⟨_, rfl⟩
                  refine lv_iinc (v := v76) (lv' := [(4, .int v76), (3, .int v73), (0, .ref (ad 386)), (1, .int x1), (2, .int x2)]) E.1 E.2.1 dX11_had_76 hl (k := 1) rfl (by rw [e77]; rfl) (by decide) rfl (fun ls hl => ?_)
                  have b78 : iv 1 200 v76 := by rw [e77]; exact iv_add b43 (iv_lit (lo := 1) (hi := 1) 1 (by decide) (by decide)) (by decide) (by decide) (by decide) (by decide)
                  have t79 : v76.toInt = y28.toInt + 1 := by rw [e77]; exact ti_addc 1 (by decide) b43 (by decide) (by decide)
                  refine lv_goto (tgt := 30) E.1 E.2.1 dX11_had_79 (by decide) ?_
                  exact ih30 zz53 v76 v73 H locs ls G oo56 kk58 (iv_mono b78 (by decide) (by decide)) (by have := t79; have := m33; omega) (lv_sub hl [0, 1, 2, 3, 4] rfl)
                · skip
                  have b80 : iv 0 0 x2 := iv_eq c71 (iv_lit (lo := 0) (hi := 0) 0 (by decide) (by decide))
                  refine lv_aload_n E.1 E.2.1 dX11_had_57 rfl (lv_at hl 2 rfl) ?_
                  refine t_get E G 11 20 (rfl : ro 386 = 11) (C := RX11) (T := TX11) (N := 37) rfl (by decide) (by decide) (by decide) mw_fl_11_39 (v := .ref (ad 396)) (fvl_o (n := 10) rfl) dX11_had_58 ?_
                  refine lv_bipush (v := 10) E.1 E.2.1 dX11_had_61 (by decide) ?_
                  refine t_iald E G 54 (rfl : ro 396 = 54) (by decide) (by decide) rfl (n := 127) rfl (by unfold vp_in; decide) dX11_had_63 ?_
                  refine lv_topi (fun v81 e82 => ?_)
                  refine lv_iconst (v := 1) E.1 E.2.1 dX11_had_64 (by decide) ?_
                  refine lv_isub E.1 E.2.1 dX11_had_65 ?_
                  refine lv_topi (fun v83 e84 => ?_)
                  refine lv_goto (tgt := 75) E.1 E.2.1 dX11_had_66 (by decide) ?_
                  refine lv_istore_n (lv' := [(3, .int v83), (4, .int y28), (0, .ref (ad 386)), (1, .int x1), (2, .int x2)]) E.1 E.2.1 dX11_had_75 rfl hl (by decide) rfl (fun ls hl => ?_)
                  obtain ⟨v85, e86⟩ : ∃ w : Int32, w = y28 + (1 : Int32) := ⟨_, rfl⟩
                  refine lv_iinc (v := v85) (lv' := [(4, .int v85), (3, .int v83), (0, .ref (ad 386)), (1, .int x1), (2, .int x2)]) E.1 E.2.1 dX11_had_76 hl (k := 1) rfl (by rw [e86]; rfl) (by decide) rfl (fun ls hl => ?_)
                  have b87 : iv 1 200 v85 := by rw [e86]; exact iv_add b43 (iv_lit (lo := 1) (hi := 1) 1 (by decide) (by decide)) (by decide) (by decide) (by decide) (by decide)
                  have t88 : v85.toInt = y28.toInt + 1 := by rw [e86]; exact ti_addc 1 (by decide) b43 (by decide) (by decide)
                  refine lv_goto (tgt := 30) E.1 E.2.1 dX11_had_79 (by decide) ?_
                  exact ih30 zz53 v85 v83 H locs ls G oo56 kk58 (iv_mono b87 (by decide) (by decide)) (by have := t88; have := m33; omega) (lv_sub hl [0, 1, 2, 3, 4] rfl)
      exact LOOP30 201 zz22 0 (-2) H locs ls G oo25 kk27 (iv_mono (iv_lit (lo := 0) (hi := 0) 0 (by decide) (by decide)) (by decide) (by decide)) (by have := (iv_lit (lo := 0) (hi := 0) 0 (by decide) (by decide)).1; omega) (lv_sub hl [0, 1, 2, 3, 4] rfl)
    · skip
      have b89 : iv 0 0 r14 := iv_eq c19 (iv_lit (lo := 0) (hi := 0) 0 (by decide) (by decide))
      refine lv_iconst (v := (-1)) E.1 E.2.1 dX11_had_18 (by decide) ?_
      exact RET G ⟨o, KF.rf⟩ rfl dX11_had_19
set_option maxHeartbeats 4000000 in
set_option maxRecDepth 100000 in
theorem v_first (l : Launch) (D : va_G) (K : Nat → ClassId) (ad : Nat → Nat) (z : TS) (o : Ok z) (x1 : Int32) (wf : WFc z) : cI l yX11_first cX11_first 5 .int ({ frames := 7, cells := 0, slots := 0, locals := 168 }) D K ad z [.ref (ad 386), .int x1] (fun r u => Ok u ∧ KM z u) := by
  refine t_enterI (by decide) (Nat.le_of_ble_eq_true rfl) rfl rfl ?_
  intro p e s m args below meth c A R Q H locs ls E hfr hlo RET G hl
  have E : mE p s m meth c cX11_first args 5 RX11 D K A := E
  have hl : lv_has ls 5 [(0, .ref (ad 386)), (1, .int x1)] := hl
  refine lv_aload_n E.1 E.2.1 dX11_first_0 rfl (lv_at hl 0 rfl) ?_
  refine t_vi E G hl (v_isTown l D K ad z o) 11 (rfl : ro 386 = 11) (by decide) rfl rfl 0 rfl mw_code_X11_isTown mw_ini_11 mw_ml_11_359 mw_inst_X11_isTown mw_sel_X11_isTown hd_X11_isTown ⟨Nat.le_trans (by decide) hfr, Nat.le_trans (by decide) hlo⟩ rfl rfl rfl (Nat.le_of_ble_eq_true rfl) dX11_first_1 (fun r2 zz1 H locs hp3 G => ?_)
  obtain ⟨hz5, b4⟩ := hp3
  rw [hz5] at G
  refine lv_if_eq (tgt := 17) E.1 E.2.1 dX11_first_4 (by decide) (fun c6 => ?_) (fun c6 => ?_)
  · skip
    have b7 : iv 0 0 r2 := iv_eq c6 (iv_lit (lo := 0) (hi := 0) 0 (by decide) (by decide))
    refine lv_iconst (v := (-1)) E.1 E.2.1 dX11_first_17 (by decide) ?_
    exact RET G ⟨o, KF.rf⟩ rfl dX11_first_18
  · skip
    have b8 : iv 1 1 r2 := ne_lo c6 b4 (by decide) (by decide)
    refine lv_iload_n E.1 E.2.1 dX11_first_7 rfl (lv_at hl 1 rfl) ?_
    refine lv_i2l E.1 E.2.1 dX11_first_8 rfl ?_
    refine lv_topl (fun v9 e10 => ?_)
    refine lv_lconst (v := 0) E.1 E.2.1 dX11_first_9 (by decide) ?_
    refine lv_lconst (v := 1) E.1 E.2.1 dX11_first_10 (by decide) ?_
    refine t_si E G hl (v_in l D K ad z o v9 0 1) 3 rfl mw_code_X11_in mw_ini_11 mw_ml_11_121 mw_stat_X11_in hd_X11_in ⟨Nat.le_trans (by decide) hfr, Nat.le_trans (by decide) hlo⟩ rfl rfl rfl (Nat.le_of_ble_eq_true rfl) dX11_first_11 (fun r12 zz11 H locs hp13 G => ?_)
    obtain ⟨hz16, b14, h15⟩ := hp13
    rw [hz16] at G
    refine lv_if_ne (tgt := 19) E.1 E.2.1 dX11_first_14 (by decide) (fun c17 => ?_) (fun c17 => ?_)
    · skip
      have b18 : iv 1 1 r12 := ne_lo c17 b14 (by decide) (by decide)
      have b19 : iv 0 1 x1 := (fun q => in_iv e10 (h15 q) (by decide) (by decide)) c17
      refine lv_bipush (v := (-2)) E.1 E.2.1 dX11_first_19 (by decide) ?_
      refine lv_istore_n (lv' := [(2, .int (-2)), (0, .ref (ad 386)), (1, .int x1)]) E.1 E.2.1 dX11_first_21 rfl hl (by decide) rfl (fun ls hl => ?_)
      refine lv_aload_n E.1 E.2.1 dX11_first_22 rfl (lv_at hl 1 rfl) ?_
      refine t_vv E G hl (v_keeps l D K ad z o) 11 (rfl : ro 386 = 11) (by decide) rfl rfl 0 rfl mw_code_X11_keeps mw_ini_11 mw_ml_11_373 mw_inst_X11_keeps mw_sel_X11_keeps hd_X11_keeps ⟨Nat.le_trans (by decide) hfr, Nat.le_trans (by decide) hlo⟩ rfl rfl rfl (Nat.le_of_ble_eq_true rfl) dX11_first_23 (fun zz20 H locs hp22 G => ?_)
      obtain ⟨oo23, kk24⟩ := hp22
      have kk25 : KM z zz20 := KF.tr KF.rf kk24
      refine lv_iconst (v := 0) E.1 E.2.1 dX11_first_26 (by decide) ?_
      refine lv_istore_n (lv' := [(3, .int 0), (2, .int (-2)), (0, .ref (ad 386)), (1, .int x1)]) E.1 E.2.1 dX11_first_27 rfl hl (by decide) rfl (fun ls hl => ?_)
      have LOOP28 : ∀ n : Nat, ∀ (zz28 : TS) (y26 : Int32) (y27 : Int32) (H : Heap) (locs : List Loc) (ls : Array Slot), mG D A s H locs (wd K ad zz28) → Ok zz28 → KM z zz28 → iv 0 200 y26 → 200 < y26.toInt + (n : Int) → lv_has ls 5 [(3, .int y26), (2, .int y27), (0, .ref (ad 386)), (1, .int x1)] → W p l e R s m args below meth c H locs 0 0 Q (F0 m 28 ls []) := by
        intro n
        induction n with
        | zero =>
          intro zz28 y26 y27 H locs ls G oo29 kk30 b32 m31 hl
          exact absurd m31 (by have := b32.1; have := b32.2; omega)
        | succ n ih28 =>
          intro zz28 y26 y27 H locs ls G oo29 kk30 b32 m31 hl
          refine lv_iload_n E.1 E.2.1 dX11_first_28 rfl (lv_at hl 0 rfl) ?_
          refine lv_sipush (v := 200) E.1 E.2.1 dX11_first_29 (by decide) ?_
          refine lv_icmp_ge (tgt := 78) E.1 E.2.1 dX11_first_32 (by decide) (fun c33 => ?_) (fun c33 => ?_)
          · skip
            have b34 : iv 200 200 y26 := le_r c33 (iv_lit (lo := 200) (hi := 200) 200 (by decide) (by decide)) b32 (by decide)
            refine lv_aload_n E.1 E.2.1 dX11_first_78 rfl (lv_at hl 2 rfl) ?_
            refine t_vv E G hl (v_laysBack l D K ad zz28 oo29) 11 (rfl : ro 386 = 11) (by decide) rfl rfl 0 rfl mw_code_X11_laysBack mw_ini_11 mw_ml_11_382 mw_inst_X11_laysBack mw_sel_X11_laysBack hd_X11_laysBack ⟨Nat.le_trans (by decide) hfr, Nat.le_trans (by decide) hlo⟩ rfl rfl rfl (Nat.le_of_ble_eq_true rfl) dX11_first_79 (fun zz35 H locs hp37 G => ?_)
            obtain ⟨oo38, kk39⟩ := hp37
            have kk40 : KM z zz35 := KF.tr kk30 kk39
            refine lv_iload_n E.1 E.2.1 dX11_first_82 rfl (lv_at hl 1 rfl) ?_
            exact RET G ⟨oo38, kk40⟩ rfl dX11_first_83
          · skip
            have b41 : iv 0 199 y26 := lt_l (Int32.not_le.mp c33) b32 (iv_lit (lo := 200) (hi := 200) 200 (by decide) (by decide)) (by decide)
            refine lv_iload_n E.1 E.2.1 dX11_first_35 rfl (lv_at hl 1 rfl) ?_
            refine lv_if_ge (tgt := 78) E.1 E.2.1 dX11_first_36 (by decide) (fun c42 => ?_) (fun c42 => ?_)
            · skip
              have b43 : iv 0 2147483647 y27 := le_r c42 (iv_lit (lo := 0) (hi := 0) 0 (by decide) (by decide)) (iv_full y27) (by decide)
              refine lv_aload_n E.1 E.2.1 dX11_first_78 rfl (lv_at hl 2 rfl) ?_
              refine t_vv E G hl (v_laysBack l D K ad zz28 oo29) 11 (rfl : ro 386 = 11) (by decide) rfl rfl 0 rfl mw_code_X11_laysBack mw_ini_11 mw_ml_11_382 mw_inst_X11_laysBack mw_sel_X11_laysBack hd_X11_laysBack ⟨Nat.le_trans (by decide) hfr, Nat.le_trans (by decide) hlo⟩ rfl rfl rfl (Nat.le_of_ble_eq_true rfl) dX11_first_79 (fun zz44 H locs hp46 G => ?_)
              obtain ⟨oo47, kk48⟩ := hp46
              have kk49 : KM z zz44 := KF.tr kk30 kk48
              refine lv_iload_n E.1 E.2.1 dX11_first_82 rfl (lv_at hl 1 rfl) ?_
              exact RET G ⟨oo47, kk49⟩ rfl dX11_first_83
            · skip
              have b50 : iv (-2147483648) (-1) y27 := lt_l (Int32.not_le.mp c42) (iv_full y27) (iv_lit (lo := 0) (hi := 0) 0 (by decide) (by decide)) (by decide)
              refine lv_aload_n E.1 E.2.1 dX11_first_39 rfl (lv_at hl 2 rfl) ?_
              refine t_vi E G hl (v_passes l D K ad zz28 oo29 (wf_ka wf kk30.2.1 rfl rfl rfl rfl)) 11 (rfl : ro 386 = 11) (by decide) rfl rfl 0 rfl mw_code_X11_passes mw_ini_11 mw_ml_11_356 mw_inst_X11_passes mw_sel_X11_passes hd_X11_passes ⟨Nat.le_trans (by decide) hfr, Nat.le_trans (by decide) hlo⟩ rfl rfl rfl (Nat.le_of_ble_eq_true rfl) dX11_first_40 (fun r52 zz51 H locs hp53 G => ?_)
              obtain ⟨oo54, kk55⟩ := hp53
              have kk56 : KM z zz51 := KF.tr kk30 kk55
              refine lv_istore (lv' := [(4, .int r52), (3, .int y26), (2, .int y27), (0, .ref (ad 386)), (1, .int x1)]) E.1 E.2.1 dX11_first_43 hl (by decide) rfl (fun ls hl => ?_)
              refine lv_iload E.1 E.2.1 dX11_first_45 (lv_at hl 0 rfl) ?_
              refine lv_if_eq (tgt := 72) E.1 E.2.1 dX11_first_47 (by decide) (fun c57 => ?_) (fun c57 => ?_)
              · skip
                have b58 : iv 0 0 r52 := iv_eq c57 (iv_lit (lo := 0) (hi := 0) 0 (by decide) (by decide))
                obtain ⟨v59, e60⟩ : ∃ w : Int32, w = y26 + (1 : Int32) := ⟨_, rfl⟩
                refine lv_iinc (v := v59) (lv' := [(3, .int v59), (4, .int r52), (2, .int y27), (0, .ref (ad 386)), (1, .int x1)]) E.1 E.2.1 dX11_first_72 hl (k := 1) rfl (by rw [e60]; rfl) (by decide) rfl (fun ls hl => ?_)
                have b61 : iv 1 200 v59 := by rw [e60]; exact iv_add b41 (iv_lit (lo := 1) (hi := 1) 1 (by decide) (by decide)) (by decide) (by decide) (by decide) (by decide)
                have t62 : v59.toInt = y26.toInt + 1 := by rw [e60]; exact ti_addc 1 (by decide) b41 (by decide) (by decide)
                refine lv_goto (tgt := 28) E.1 E.2.1 dX11_first_75 (by decide) ?_
                exact ih28 zz51 v59 y27 H locs ls G oo54 kk56 (iv_mono b61 (by decide) (by decide)) (by have := t62; have := m31; omega) (lv_sub hl [0, 2, 3, 4] rfl)
              · skip
                refine lv_iload_n E.1 E.2.1 dX11_first_50 rfl (lv_at hl 4 rfl) ?_
                refine lv_if_ne (tgt := 66) E.1 E.2.1 dX11_first_51 (by decide) (fun c63 => ?_) (fun c63 => ?_)
                · skip
                  have b64 : iv 1 1 x1 := ne_lo c63 b19 (by decide) (by decide)
                  refine lv_iload E.1 E.2.1 dX11_first_66 (lv_at hl 0 rfl) ?_
                  refine t_si E G hl (v_leastOf l D K ad zz51 oo54 r52 c57) 1 rfl mw_code_X11_leastOf mw_ini_11 mw_ml_11_385 mw_stat_X11_leastOf hd_X11_leastOf ⟨Nat.le_trans (by decide) hfr, Nat.le_trans (by decide) hlo⟩ rfl rfl rfl (Nat.le_of_ble_eq_true rfl) dX11_first_68 (fun r66 zz65 H locs hp67 G => ?_)
                  have hz68 := hp67
                  rw [hz68] at G
                  refine lv_istore_n (lv' := [(2, .int r66), (4, .int r52), (3, .int y26), (0, .ref (ad 386)), (1, .int x1)]) E.1 E.2.1 dX11_first_71 rfl hl (by decide) rfl (fun ls hl => ?_)
                  obtain ⟨v69, e70⟩ : ∃ w : Int32, w = y26 + (1 : Int32) := ⟨_, rfl⟩
                  refine lv_iinc (v := v69) (lv' := [(3, .int v69), (2, .int r66), (4, .int r52), (0, .ref (ad 386)), (1, .int x1)]) E.1 E.2.1 dX11_first_72 hl (k := 2) rfl (by rw [e70]; rfl) (by decide) rfl (fun ls hl => ?_)
                  have b71 : iv 1 200 v69 := by rw [e70]; exact iv_add b41 (iv_lit (lo := 1) (hi := 1) 1 (by decide) (by decide)) (by decide) (by decide) (by decide) (by decide)
                  have t72 : v69.toInt = y26.toInt + 1 := by rw [e70]; exact ti_addc 1 (by decide) b41 (by decide) (by decide)
                  refine lv_goto (tgt := 28) E.1 E.2.1 dX11_first_75 (by decide) ?_
                  exact ih28 zz51 v69 r66 H locs ls G oo54 kk56 (iv_mono b71 (by decide) (by decide)) (by have := t72; have := m31; omega) (lv_sub hl [0, 1, 3, 4] rfl)
                · skip
                  have b73 : iv 0 0 x1 := iv_eq c63 (iv_lit (lo := 0) (hi := 0) 0 (by decide) (by decide))
                  refine lv_aload_n E.1 E.2.1 dX11_first_54 rfl (lv_at hl 3 rfl) ?_
                  refine t_get E G 11 20 (rfl : ro 386 = 11) (C := RX11) (T := TX11) (N := 37) rfl (by decide) (by decide) (by decide) mw_fl_11_39 (v := .ref (ad 396)) (fvl_o (n := 10) rfl) dX11_first_55 ?_
                  refine lv_bipush (v := 10) E.1 E.2.1 dX11_first_58 (by decide) ?_
                  refine t_iald E G 54 (rfl : ro 396 = 54) (by decide) (by decide) rfl (n := 127) rfl (by unfold vp_in; decide) dX11_first_60 ?_
                  refine lv_topi (fun v74 e75 => ?_)
                  refine lv_iconst (v := 1) E.1 E.2.1 dX11_first_61 (by decide) ?_
                  refine lv_isub E.1 E.2.1 dX11_first_62 ?_
                  refine lv_topi (fun v76 e77 => ?_)
                  refine lv_goto (tgt := 71) E.1 E.2.1 dX11_first_63 (by decide) ?_
                  refine lv_istore_n (lv' := [(2, .int v76), (4, .int r52), (3, .int y26), (0, .ref (ad 386)), (1, .int x1)]) E.1 E.2.1 dX11_first_71 rfl hl (by decide) rfl (fun ls hl => ?_)
                  obtain ⟨v78, e79⟩ : ∃ w : Int32, w = y26 + (1 : Int32) := ⟨_, rfl⟩
                  refine lv_iinc (v := v78) (lv' := [(3, .int v78), (2, .int v76), (4, .int r52), (0, .ref (ad 386)), (1, .int x1)]) E.1 E.2.1 dX11_first_72 hl (k := 2) rfl (by rw [e79]; rfl) (by decide) rfl (fun ls hl => ?_)
                  have b80 : iv 1 200 v78 := by rw [e79]; exact iv_add b41 (iv_lit (lo := 1) (hi := 1) 1 (by decide) (by decide)) (by decide) (by decide) (by decide) (by decide)
                  have t81 : v78.toInt = y26.toInt + 1 := by rw [e79]; exact ti_addc 1 (by decide) b41 (by decide) (by decide)
                  refine lv_goto (tgt := 28) E.1 E.2.1 dX11_first_75 (by decide) ?_
                  exact ih28 zz51 v78 v76 H locs ls G oo54 kk56 (iv_mono b80 (by decide) (by decide)) (by have := t81; have := m31; omega) (lv_sub hl [0, 1, 3, 4] rfl)
      exact LOOP28 201 zz20 0 (-2) H locs ls G oo23 kk25 (iv_mono (iv_lit (lo := 0) (hi := 0) 0 (by decide) (by decide)) (by decide) (by decide)) (by have := (iv_lit (lo := 0) (hi := 0) 0 (by decide) (by decide)).1; omega) (lv_sub hl [0, 1, 2, 3] rfl)
    · skip
      have b82 : iv 0 0 r12 := iv_eq c17 (iv_lit (lo := 0) (hi := 0) 0 (by decide) (by decide))
      refine lv_iconst (v := (-1)) E.1 E.2.1 dX11_first_17 (by decide) ?_
      exact RET G ⟨o, KF.rf⟩ rfl dX11_first_18
set_option maxHeartbeats 4000000 in
set_option maxRecDepth 100000 in
theorem v_chargesIn (l : Launch) (D : va_G) (K : Nat → ClassId) (ad : Nat → Nat) (z : TS) (o : Ok z) (x1 : Int32) (bx1 : iv 0 100 x1) (wf : WFc z) : cI l yX11_chargesIn cX11_chargesIn 3 .int ({ frames := 8, cells := 0, slots := 0, locals := 190 }) D K ad z [.ref (ad 386), .int x1] (fun r u => Ok u ∧ KM z u) := by
  refine t_enterI (by decide) (Nat.le_of_ble_eq_true rfl) rfl rfl ?_
  intro p e s m args below meth c A R Q H locs ls E hfr hlo RET G hl
  have E : mE p s m meth c cX11_chargesIn args 3 RX11 D K A := E
  have hl : lv_has ls 3 [(0, .ref (ad 386)), (1, .int x1)] := hl
  refine lv_aload_n E.1 E.2.1 dX11_chargesIn_0 rfl (lv_at hl 0 rfl) ?_
  refine lv_iload_n E.1 E.2.1 dX11_chargesIn_1 rfl (lv_at hl 1 rfl) ?_
  refine t_vv E G hl (v_passesAll l D K ad z o x1 (iv_mono bx1 (by decide) (by decide)) wf) 11 (rfl : ro 386 = 11) (by decide) rfl rfl 1 rfl mw_code_X11_passesAll mw_ini_11 mw_ml_11_376 mw_inst_X11_passesAll mw_sel_X11_passesAll hd_X11_passesAll ⟨Nat.le_trans (by decide) hfr, Nat.le_trans (by decide) hlo⟩ rfl rfl rfl (Nat.le_of_ble_eq_true rfl) dX11_chargesIn_2 (fun zz1 H locs hp3 G => ?_)
  obtain ⟨oo4, kk5⟩ := hp3
  have kk6 : KM z zz1 := KF.tr KF.rf kk5
  refine lv_aload_n E.1 E.2.1 dX11_chargesIn_5 rfl (lv_at hl 0 rfl) ?_
  refine t_vi E G hl (v_charges l D K ad zz1 oo4) 11 (rfl : ro 386 = 11) (by decide) rfl rfl 0 rfl mw_code_X11_charges mw_ini_11 mw_ml_11_394 mw_inst_X11_charges mw_sel_X11_charges hd_X11_charges ⟨Nat.le_trans (by decide) hfr, Nat.le_trans (by decide) hlo⟩ rfl rfl rfl (Nat.le_of_ble_eq_true rfl) dX11_chargesIn_6 (fun r8 zz7 H locs hp9 G => ?_)
  have hz10 := hp9
  rw [hz10] at G
  refine lv_istore_n (lv' := [(2, .int r8), (0, .ref (ad 386)), (1, .int x1)]) E.1 E.2.1 dX11_chargesIn_9 rfl hl (by decide) rfl (fun ls hl => ?_)
  refine lv_aload_n E.1 E.2.1 dX11_chargesIn_10 rfl (lv_at hl 1 rfl) ?_
  refine t_vv E G hl (v_laysBack l D K ad zz1 oo4) 11 (rfl : ro 386 = 11) (by decide) rfl rfl 0 rfl mw_code_X11_laysBack mw_ini_11 mw_ml_11_382 mw_inst_X11_laysBack mw_sel_X11_laysBack hd_X11_laysBack ⟨Nat.le_trans (by decide) hfr, Nat.le_trans (by decide) hlo⟩ rfl rfl rfl (Nat.le_of_ble_eq_true rfl) dX11_chargesIn_11 (fun zz11 H locs hp13 G => ?_)
  obtain ⟨oo14, kk15⟩ := hp13
  have kk16 : KM z zz11 := KF.tr kk6 kk15
  refine lv_iload_n E.1 E.2.1 dX11_chargesIn_14 rfl (lv_at hl 0 rfl) ?_
  exact RET G ⟨oo14, kk16⟩ rfl dX11_chargesIn_15
