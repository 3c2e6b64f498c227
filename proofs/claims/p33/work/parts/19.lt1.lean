theorem mw_code_X0_keep : (Cond.code yX0_keep cX0_keep 2 none : Cond) ∈ cw := cw_of (List.mem_append_right _ (List.mem_append_right _ (List.mem_append_right _ (List.mem_append_right _ (List.mem_append_left _ (List.mem_of_getElem? (i := 62) rfl)))))) (by decide +kernel)
theorem mw_code_X0_takeBack : (Cond.code yX0_takeBack cX0_takeBack 2 none : Cond) ∈ cw := cw_of (List.mem_append_right _ (List.mem_append_right _ (List.mem_append_right _ (List.mem_append_right _ (List.mem_append_left _ (List.mem_of_getElem? (i := 161) rfl)))))) (by decide +kernel)
theorem mw_code_X10_hasSetLure : (Cond.code yX10_hasSetLure cX10_hasSetLure 2 (some .boolean) : Cond) ∈ cw := cw_of (List.mem_append_right _ (List.mem_append_right _ (List.mem_append_right _ (List.mem_append_right _ (List.mem_append_left _ (List.mem_of_getElem? (i := 145) rfl)))))) (by decide +kernel)
theorem mw_code_X6_setAgain : (Cond.code yX6_setAgain cX6_setAgain 2 none : Cond) ∈ cw := cw_of (List.mem_append_right _ (List.mem_append_right _ (List.mem_append_right _ (List.mem_append_left _ (List.mem_of_getElem? (i := 143) rfl))))) (by decide +kernel)
theorem mw_fl_10_10 : (Cond.fieldLink RX10 10 "LureTown" "tape" "LLureTown$Tape;" : Cond) ∈ cw := cw_of (List.mem_append_right _ (List.mem_append_right _ (List.mem_append_left _ (List.mem_of_getElem? (i := 128) (by decide +kernel))))) (by decide +kernel)
theorem mw_fl_10_100 : (Cond.fieldLink RX10 100 "LureTown$Tape" "size" "I" : Cond) ∈ cw := cw_of (List.mem_append_right _ (List.mem_append_left _ (List.mem_of_getElem? (i := 37) (by decide +kernel)))) (by decide +kernel)
theorem mw_fl_10_146 : (Cond.fieldLink RX10 146 "LureTown$Moment" "inForce" "I" : Cond) ∈ cw := cw_of (List.mem_append_right _ (List.mem_append_right _ (List.mem_append_left _ (List.mem_of_getElem? (i := 58) (by decide +kernel))))) (by decide +kernel)
theorem mw_fl_10_215 : (Cond.fieldLink RX10 215 "LureTown$Acts" "size" "I" : Cond) ∈ cw := cw_of (List.mem_append_right _ (List.mem_append_right _ (List.mem_append_left _ (List.mem_of_getElem? (i := 83) (by decide +kernel))))) (by decide +kernel)
theorem mw_fl_10_43 : (Cond.fieldLink RX10 43 "LureTown" "ruleCount" "I" : Cond) ∈ cw := cw_of (List.mem_append_right _ (List.mem_append_right _ (List.mem_append_left _ (List.mem_of_getElem? (i := 133) (by decide +kernel))))) (by decide +kernel)
theorem mw_fl_10_69 : (Cond.fieldLink RX10 69 "LureTown" "acts" "LLureTown$Acts;" : Cond) ∈ cw := cw_of (List.mem_append_right _ (List.mem_append_right _ (List.mem_append_left _ (List.mem_of_getElem? (i := 138) (by decide +kernel))))) (by decide +kernel)
theorem mw_ini_0 : (Cond.initialized RX0 : Cond) ∈ cw := cw_of (List.mem_append_right _ (List.mem_append_left _ (List.mem_of_getElem? (i := 10) (by decide +kernel)))) (by decide +kernel)
theorem mw_inst_X0_keep : (Cond.instanceMethod yX0_keep : Cond) ∈ cw := cw_of (List.mem_append_right _ (List.mem_append_right _ (List.mem_append_right _ (List.mem_append_right _ (List.mem_append_left _ (List.mem_of_getElem? (i := 60) (by decide +kernel))))))) (by decide +kernel)
theorem mw_inst_X0_takeBack : (Cond.instanceMethod yX0_takeBack : Cond) ∈ cw := cw_of (List.mem_append_right _ (List.mem_append_right _ (List.mem_append_right _ (List.mem_append_right _ (List.mem_append_left _ (List.mem_of_getElem? (i := 159) (by decide +kernel))))))) (by decide +kernel)
theorem mw_inst_X10_hasSetLure : (Cond.instanceMethod yX10_hasSetLure : Cond) ∈ cw := cw_of (List.mem_append_right _ (List.mem_append_right _ (List.mem_append_right _ (List.mem_append_right _ (List.mem_append_left _ (List.mem_of_getElem? (i := 144) (by decide +kernel))))))) (by decide +kernel)
theorem mw_inst_X6_setAgain : (Cond.instanceMethod yX6_setAgain : Cond) ∈ cw := cw_of (List.mem_append_right _ (List.mem_append_right _ (List.mem_append_right _ (List.mem_append_left _ (List.mem_of_getElem? (i := 141) (by decide +kernel)))))) (by decide +kernel)
theorem mw_ml_10_223 : (Cond.methodLink RX10 223 yX0_keep : Cond) ∈ cw := cw_of (List.mem_append_right _ (List.mem_append_right _ (List.mem_append_right _ (List.mem_append_right _ (List.mem_append_left _ (List.mem_of_getElem? (i := 59) (by decide +kernel))))))) (by decide +kernel)
theorem mw_ml_10_233 : (Cond.methodLink RX10 233 yX6_setAgain : Cond) ∈ cw := cw_of (List.mem_append_right _ (List.mem_append_right _ (List.mem_append_right _ (List.mem_append_right _ (List.mem_append_left _ (List.mem_of_getElem? (i := 137) (by decide +kernel))))))) (by decide +kernel)
theorem mw_ml_10_236 : (Cond.methodLink RX10 236 yX10_hasSetLure : Cond) ∈ cw := cw_of (List.mem_append_right _ (List.mem_append_right _ (List.mem_append_right _ (List.mem_append_right _ (List.mem_append_left _ (List.mem_of_getElem? (i := 142) (by decide +kernel))))))) (by decide +kernel)
theorem mw_ml_10_239 : (Cond.methodLink RX10 239 yX0_takeBack : Cond) ∈ cw := cw_of (List.mem_append_right _ (List.mem_append_right _ (List.mem_append_right _ (List.mem_append_right _ (List.mem_append_left _ (List.mem_of_getElem? (i := 158) (by decide +kernel))))))) (by decide +kernel)
theorem mw_sel_X0_keep : (Cond.selects RX0 yX0_keep yX0_keep : Cond) ∈ cw := cw_of (List.mem_append_right _ (List.mem_append_right _ (List.mem_append_right _ (List.mem_append_right _ (List.mem_append_left _ (List.mem_of_getElem? (i := 61) (by decide +kernel))))))) (by decide +kernel)
theorem mw_sel_X0_takeBack : (Cond.selects RX0 yX0_takeBack yX0_takeBack : Cond) ∈ cw := cw_of (List.mem_append_right _ (List.mem_append_right _ (List.mem_append_right _ (List.mem_append_right _ (List.mem_append_left _ (List.mem_of_getElem? (i := 160) (by decide +kernel))))))) (by decide +kernel)
theorem mw_sel_X10_hasSetLure : (Cond.selects RX10 yX10_hasSetLure yX10_hasSetLure : Cond) ∈ cw := cw_of (List.mem_append_left _ (List.mem_of_getElem? (i := 36) (by decide +kernel))) (by decide +kernel)
theorem mw_sel_X6_setAgain : (Cond.selects RX6 yX6_setAgain yX6_setAgain : Cond) ∈ cw := cw_of (List.mem_append_right _ (List.mem_append_right _ (List.mem_append_right _ (List.mem_append_left _ (List.mem_of_getElem? (i := 142) (by decide +kernel)))))) (by decide +kernel)
theorem dX10_bait_0 : decode cX10_bait 0 = .ok (.aload_n 0, 1) := by decide +kernel
theorem dX10_bait_1 : decode cX10_bait 1 = .ok (.iload_n 1, 1) := by decide +kernel
theorem dX10_bait_2 : decode cX10_bait 2 = .ok (.invokevirtual 149, 3) := by decide +kernel
theorem dX10_bait_5 : decode cX10_bait 5 = .ok (.ifCond .eq 29, 3) := by decide +kernel
theorem dX10_bait_8 : decode cX10_bait 8 = .ok (.iload_n 2, 1) := by decide +kernel
theorem dX10_bait_9 : decode cX10_bait 9 = .ok (.ifCond .lt 25, 3) := by decide +kernel
theorem dX10_bait_12 : decode cX10_bait 12 = .ok (.iload_n 2, 1) := by decide +kernel
theorem dX10_bait_13 : decode cX10_bait 13 = .ok (.bipush 8, 2) := by decide +kernel
theorem dX10_bait_15 : decode cX10_bait 15 = .ok (.if_icmp .ge 19, 3) := by decide +kernel
theorem dX10_bait_18 : decode cX10_bait 18 = .ok (.aload_n 0, 1) := by decide +kernel
theorem dX10_bait_19 : decode cX10_bait 19 = .ok (.getfield 55, 3) := by decide +kernel
theorem dX10_bait_22 : decode cX10_bait 22 = .ok (.getfield 121, 3) := by decide +kernel
theorem dX10_bait_25 : decode cX10_bait 25 = .ok (.getfield 156, 3) := by decide +kernel
theorem dX10_bait_28 : decode cX10_bait 28 = .ok (.iload_n 1, 1) := by decide +kernel
theorem dX10_bait_29 : decode cX10_bait 29 = .ok (.iaload, 1) := by decide +kernel
theorem dX10_bait_30 : decode cX10_bait 30 = .ok (.iload_n 2, 1) := by decide +kernel
theorem dX10_bait_31 : decode cX10_bait 31 = .ok (.if_icmp .ne 5, 3) := by decide +kernel
theorem dX10_bait_34 : decode cX10_bait 34 = .ok (.iconst (-1), 1) := by decide +kernel
theorem dX10_bait_35 : decode cX10_bait 35 = .ok (.ireturn, 1) := by decide +kernel
theorem dX10_bait_36 : decode cX10_bait 36 = .ok (.aload_n 0, 1) := by decide +kernel
theorem dX10_bait_37 : decode cX10_bait 37 = .ok (.getfield 69, 3) := by decide +kernel
theorem dX10_bait_40 : decode cX10_bait 40 = .ok (.aload_n 0, 1) := by decide +kernel
theorem dX10_bait_41 : decode cX10_bait 41 = .ok (.getfield 55, 3) := by decide +kernel
theorem dX10_bait_44 : decode cX10_bait 44 = .ok (.getfield 121, 3) := by decide +kernel
theorem dX10_bait_47 : decode cX10_bait 47 = .ok (.invokevirtual 223, 3) := by decide +kernel
theorem dX10_bait_50 : decode cX10_bait 50 = .ok (.aload_n 0, 1) := by decide +kernel
theorem dX10_bait_51 : decode cX10_bait 51 = .ok (.getfield 55, 3) := by decide +kernel
theorem dX10_bait_54 : decode cX10_bait 54 = .ok (.getfield 121, 3) := by decide +kernel
theorem dX10_bait_57 : decode cX10_bait 57 = .ok (.getfield 156, 3) := by decide +kernel
theorem dX10_bait_60 : decode cX10_bait 60 = .ok (.iload_n 1, 1) := by decide +kernel
theorem dX10_bait_61 : decode cX10_bait 61 = .ok (.iaload, 1) := by decide +kernel
theorem dX10_bait_62 : decode cX10_bait 62 = .ok (.istore_n 3, 1) := by decide +kernel
theorem dX10_bait_63 : decode cX10_bait 63 = .ok (.aload_n 0, 1) := by decide +kernel
theorem dX10_bait_64 : decode cX10_bait 64 = .ok (.getfield 55, 3) := by decide +kernel
theorem dX10_bait_67 : decode cX10_bait 67 = .ok (.getfield 121, 3) := by decide +kernel
theorem dX10_bait_70 : decode cX10_bait 70 = .ok (.getfield 156, 3) := by decide +kernel
theorem dX10_bait_73 : decode cX10_bait 73 = .ok (.iload_n 1, 1) := by decide +kernel
theorem dX10_bait_74 : decode cX10_bait 74 = .ok (.iload_n 2, 1) := by decide +kernel
theorem dX10_bait_75 : decode cX10_bait 75 = .ok (.iastore, 1) := by decide +kernel
theorem dX10_bait_76 : decode cX10_bait 76 = .ok (.iload_n 3, 1) := by decide +kernel
theorem dX10_bait_77 : decode cX10_bait 77 = .ok (.ireturn, 1) := by decide +kernel
theorem dX10_calm_0 : decode cX10_calm 0 = .ok (.aload_n 0, 1) := by decide +kernel
theorem dX10_calm_1 : decode cX10_calm 1 = .ok (.iload_n 1, 1) := by decide +kernel
theorem dX10_calm_2 : decode cX10_calm 2 = .ok (.invokevirtual 168, 3) := by decide +kernel
theorem dX10_calm_5 : decode cX10_calm 5 = .ok (.ifCond .eq 29, 3) := by decide +kernel
theorem dX10_calm_8 : decode cX10_calm 8 = .ok (.iload_n 2, 1) := by decide +kernel
theorem dX10_calm_9 : decode cX10_calm 9 = .ok (.ifCond .lt 25, 3) := by decide +kernel
theorem dX10_calm_12 : decode cX10_calm 12 = .ok (.iload_n 2, 1) := by decide +kernel
theorem dX10_calm_13 : decode cX10_calm 13 = .ok (.bipush 9, 2) := by decide +kernel
theorem dX10_calm_15 : decode cX10_calm 15 = .ok (.if_icmp .gt 19, 3) := by decide +kernel
theorem dX10_calm_18 : decode cX10_calm 18 = .ok (.aload_n 0, 1) := by decide +kernel
theorem dX10_calm_19 : decode cX10_calm 19 = .ok (.getfield 55, 3) := by decide +kernel
theorem dX10_calm_22 : decode cX10_calm 22 = .ok (.getfield 121, 3) := by decide +kernel
theorem dX10_calm_25 : decode cX10_calm 25 = .ok (.getfield 180, 3) := by decide +kernel
theorem dX10_calm_28 : decode cX10_calm 28 = .ok (.iload_n 1, 1) := by decide +kernel
theorem dX10_calm_29 : decode cX10_calm 29 = .ok (.iaload, 1) := by decide +kernel
theorem dX10_calm_30 : decode cX10_calm 30 = .ok (.iload_n 2, 1) := by decide +kernel
theorem dX10_calm_31 : decode cX10_calm 31 = .ok (.if_icmp .ne 5, 3) := by decide +kernel
theorem dX10_calm_34 : decode cX10_calm 34 = .ok (.iconst (-1), 1) := by decide +kernel
theorem dX10_calm_35 : decode cX10_calm 35 = .ok (.ireturn, 1) := by decide +kernel
theorem dX10_calm_36 : decode cX10_calm 36 = .ok (.aload_n 0, 1) := by decide +kernel
theorem dX10_calm_37 : decode cX10_calm 37 = .ok (.getfield 69, 3) := by decide +kernel
theorem dX10_calm_40 : decode cX10_calm 40 = .ok (.aload_n 0, 1) := by decide +kernel
theorem dX10_calm_41 : decode cX10_calm 41 = .ok (.getfield 55, 3) := by decide +kernel
theorem dX10_calm_44 : decode cX10_calm 44 = .ok (.getfield 121, 3) := by decide +kernel
theorem dX10_calm_47 : decode cX10_calm 47 = .ok (.invokevirtual 223, 3) := by decide +kernel
theorem dX10_calm_50 : decode cX10_calm 50 = .ok (.aload_n 0, 1) := by decide +kernel
theorem dX10_calm_51 : decode cX10_calm 51 = .ok (.getfield 55, 3) := by decide +kernel
theorem dX10_calm_54 : decode cX10_calm 54 = .ok (.getfield 121, 3) := by decide +kernel
theorem dX10_calm_57 : decode cX10_calm 57 = .ok (.getfield 180, 3) := by decide +kernel
theorem dX10_calm_60 : decode cX10_calm 60 = .ok (.iload_n 1, 1) := by decide +kernel
theorem dX10_calm_61 : decode cX10_calm 61 = .ok (.iaload, 1) := by decide +kernel
theorem dX10_calm_62 : decode cX10_calm 62 = .ok (.istore_n 3, 1) := by decide +kernel
theorem dX10_calm_63 : decode cX10_calm 63 = .ok (.aload_n 0, 1) := by decide +kernel
theorem dX10_calm_64 : decode cX10_calm 64 = .ok (.getfield 55, 3) := by decide +kernel
theorem dX10_calm_67 : decode cX10_calm 67 = .ok (.getfield 121, 3) := by decide +kernel
theorem dX10_calm_70 : decode cX10_calm 70 = .ok (.getfield 180, 3) := by decide +kernel
theorem dX10_calm_73 : decode cX10_calm 73 = .ok (.iload_n 1, 1) := by decide +kernel
theorem dX10_calm_74 : decode cX10_calm 74 = .ok (.iload_n 2, 1) := by decide +kernel
theorem dX10_calm_75 : decode cX10_calm 75 = .ok (.iastore, 1) := by decide +kernel
theorem dX10_calm_76 : decode cX10_calm 76 = .ok (.iload_n 3, 1) := by decide +kernel
theorem dX10_calm_77 : decode cX10_calm 77 = .ok (.ireturn, 1) := by decide +kernel
theorem dX10_end_0 : decode cX10_end 0 = .ok (.iload_n 1, 1) := by decide +kernel
theorem dX10_end_1 : decode cX10_end 1 = .ok (.ifCond .lt 14, 3) := by decide +kernel
theorem dX10_end_4 : decode cX10_end 4 = .ok (.iload_n 1, 1) := by decide +kernel
theorem dX10_end_5 : decode cX10_end 5 = .ok (.aload_n 0, 1) := by decide +kernel
theorem dX10_end_6 : decode cX10_end 6 = .ok (.getfield 10, 3) := by decide +kernel
theorem dX10_end_9 : decode cX10_end 9 = .ok (.getfield 100, 3) := by decide +kernel
theorem dX10_end_12 : decode cX10_end 12 = .ok (.if_icmp .le 5, 3) := by decide +kernel
theorem dX10_end_15 : decode cX10_end 15 = .ok (.iconst (-1), 1) := by decide +kernel
theorem dX10_end_16 : decode cX10_end 16 = .ok (.ireturn, 1) := by decide +kernel
theorem dX10_end_17 : decode cX10_end 17 = .ok (.aload_n 0, 1) := by decide +kernel
theorem dX10_end_18 : decode cX10_end 18 = .ok (.getfield 10, 3) := by decide +kernel
theorem dX10_end_21 : decode cX10_end 21 = .ok (.iload_n 1, 1) := by decide +kernel
theorem dX10_end_22 : decode cX10_end 22 = .ok (.putfield 100, 3) := by decide +kernel
theorem dX10_end_25 : decode cX10_end 25 = .ok (.iload_n 1, 1) := by decide +kernel
theorem dX10_end_26 : decode cX10_end 26 = .ok (.ireturn, 1) := by decide +kernel
theorem dX10_force_0 : decode cX10_force 0 = .ok (.iload_n 1, 1) := by decide +kernel
theorem dX10_force_1 : decode cX10_force 1 = .ok (.iconst (-1), 1) := by decide +kernel
theorem dX10_force_2 : decode cX10_force 2 = .ok (.if_icmp .lt 11, 3) := by decide +kernel
theorem dX10_force_5 : decode cX10_force 5 = .ok (.iload_n 1, 1) := by decide +kernel
theorem dX10_force_6 : decode cX10_force 6 = .ok (.aload_n 0, 1) := by decide +kernel
theorem dX10_force_7 : decode cX10_force 7 = .ok (.getfield 43, 3) := by decide +kernel
theorem dX10_force_10 : decode cX10_force 10 = .ok (.if_icmp .lt 6, 3) := by decide +kernel
theorem dX10_force_13 : decode cX10_force 13 = .ok (.bipush (-2), 2) := by decide +kernel
theorem dX10_force_15 : decode cX10_force 15 = .ok (.ireturn, 1) := by decide +kernel
theorem dX10_force_16 : decode cX10_force 16 = .ok (.aload_n 0, 1) := by decide +kernel
theorem dX10_force_17 : decode cX10_force 17 = .ok (.getfield 55, 3) := by decide +kernel
theorem dX10_force_20 : decode cX10_force 20 = .ok (.getfield 146, 3) := by decide +kernel
theorem dX10_force_23 : decode cX10_force 23 = .ok (.istore_n 2, 1) := by decide +kernel
theorem dX10_force_24 : decode cX10_force 24 = .ok (.aload_n 0, 1) := by decide +kernel
theorem dX10_force_25 : decode cX10_force 25 = .ok (.getfield 55, 3) := by decide +kernel
theorem dX10_force_28 : decode cX10_force 28 = .ok (.iload_n 1, 1) := by decide +kernel
theorem dX10_force_29 : decode cX10_force 29 = .ok (.putfield 146, 3) := by decide +kernel
theorem dX10_force_32 : decode cX10_force 32 = .ok (.iload_n 2, 1) := by decide +kernel
theorem dX10_force_33 : decode cX10_force 33 = .ok (.ireturn, 1) := by decide +kernel
theorem dX10_move_0 : decode cX10_move 0 = .ok (.aload_n 0, 1) := by decide +kernel
theorem dX10_move_1 : decode cX10_move 1 = .ok (.iload_n 1, 1) := by decide +kernel
theorem dX10_move_2 : decode cX10_move 2 = .ok (.invokevirtual 236, 3) := by decide +kernel
theorem dX10_move_5 : decode cX10_move 5 = .ok (.ifCond .eq 27, 3) := by decide +kernel
theorem dX10_move_8 : decode cX10_move 8 = .ok (.aload_n 0, 1) := by decide +kernel
theorem dX10_move_9 : decode cX10_move 9 = .ok (.iload_n 2, 1) := by decide +kernel
theorem dX10_move_10 : decode cX10_move 10 = .ok (.invokevirtual 186, 3) := by decide +kernel
theorem dX10_move_13 : decode cX10_move 13 = .ok (.ifCond .eq 19, 3) := by decide +kernel
theorem dX10_move_16 : decode cX10_move 16 = .ok (.aload_n 0, 1) := by decide +kernel
theorem dX10_move_17 : decode cX10_move 17 = .ok (.getfield 55, 3) := by decide +kernel
theorem dX10_move_20 : decode cX10_move 20 = .ok (.getfield 121, 3) := by decide +kernel
theorem dX10_move_23 : decode cX10_move 23 = .ok (.getfield 153, 3) := by decide +kernel
theorem dX10_move_26 : decode cX10_move 26 = .ok (.iload_n 1, 1) := by decide +kernel
theorem dX10_move_27 : decode cX10_move 27 = .ok (.iaload, 1) := by decide +kernel
theorem dX10_move_28 : decode cX10_move 28 = .ok (.iload_n 2, 1) := by decide +kernel
theorem dX10_move_29 : decode cX10_move 29 = .ok (.if_icmp .ne 5, 3) := by decide +kernel
theorem dX10_move_32 : decode cX10_move 32 = .ok (.iconst (-1), 1) := by decide +kernel
theorem dX10_move_33 : decode cX10_move 33 = .ok (.ireturn, 1) := by decide +kernel
theorem dX10_move_34 : decode cX10_move 34 = .ok (.aload_n 0, 1) := by decide +kernel
theorem dX10_move_35 : decode cX10_move 35 = .ok (.getfield 69, 3) := by decide +kernel
theorem dX10_move_38 : decode cX10_move 38 = .ok (.aload_n 0, 1) := by decide +kernel
theorem dX10_move_39 : decode cX10_move 39 = .ok (.getfield 55, 3) := by decide +kernel
theorem dX10_move_42 : decode cX10_move 42 = .ok (.getfield 121, 3) := by decide +kernel
theorem dX10_move_45 : decode cX10_move 45 = .ok (.invokevirtual 223, 3) := by decide +kernel
theorem dX10_move_48 : decode cX10_move 48 = .ok (.aload_n 0, 1) := by decide +kernel
theorem dX10_move_49 : decode cX10_move 49 = .ok (.getfield 55, 3) := by decide +kernel
theorem dX10_move_52 : decode cX10_move 52 = .ok (.getfield 121, 3) := by decide +kernel
theorem dX10_move_55 : decode cX10_move 55 = .ok (.getfield 153, 3) := by decide +kernel
theorem dX10_move_58 : decode cX10_move 58 = .ok (.iload_n 1, 1) := by decide +kernel
theorem dX10_move_59 : decode cX10_move 59 = .ok (.iaload, 1) := by decide +kernel
theorem dX10_move_60 : decode cX10_move 60 = .ok (.istore_n 3, 1) := by decide +kernel
theorem dX10_move_61 : decode cX10_move 61 = .ok (.aload_n 0, 1) := by decide +kernel
theorem dX10_move_62 : decode cX10_move 62 = .ok (.getfield 55, 3) := by decide +kernel
theorem dX10_move_65 : decode cX10_move 65 = .ok (.getfield 121, 3) := by decide +kernel
theorem dX10_move_68 : decode cX10_move 68 = .ok (.getfield 153, 3) := by decide +kernel
theorem dX10_move_71 : decode cX10_move 71 = .ok (.iload_n 1, 1) := by decide +kernel
theorem dX10_move_72 : decode cX10_move 72 = .ok (.iload_n 2, 1) := by decide +kernel
theorem dX10_move_73 : decode cX10_move 73 = .ok (.iastore, 1) := by decide +kernel
theorem dX10_move_74 : decode cX10_move 74 = .ok (.iload_n 3, 1) := by decide +kernel
theorem dX10_move_75 : decode cX10_move 75 = .ok (.ireturn, 1) := by decide +kernel
theorem dX10_set_0 : decode cX10_set 0 = .ok (.aload_n 0, 1) := by decide +kernel
theorem dX10_set_1 : decode cX10_set 1 = .ok (.iload_n 1, 1) := by decide +kernel
theorem dX10_set_2 : decode cX10_set 2 = .ok (.invokevirtual 149, 3) := by decide +kernel
theorem dX10_set_5 : decode cX10_set 5 = .ok (.ifCond .eq 25, 3) := by decide +kernel
theorem dX10_set_8 : decode cX10_set 8 = .ok (.aload_n 0, 1) := by decide +kernel
theorem dX10_set_9 : decode cX10_set 9 = .ok (.iload_n 2, 1) := by decide +kernel
theorem dX10_set_10 : decode cX10_set 10 = .ok (.invokevirtual 186, 3) := by decide +kernel
theorem dX10_set_13 : decode cX10_set 13 = .ok (.ifCond .eq 17, 3) := by decide +kernel
theorem dX10_set_16 : decode cX10_set 16 = .ok (.aload_n 0, 1) := by decide +kernel
theorem dX10_set_17 : decode cX10_set 17 = .ok (.getfield 55, 3) := by decide +kernel
theorem dX10_set_20 : decode cX10_set 20 = .ok (.getfield 121, 3) := by decide +kernel
theorem dX10_set_23 : decode cX10_set 23 = .ok (.iload_n 1, 1) := by decide +kernel
theorem dX10_set_24 : decode cX10_set 24 = .ok (.invokevirtual 165, 3) := by decide +kernel
theorem dX10_set_27 : decode cX10_set 27 = .ok (.ifCond .eq 5, 3) := by decide +kernel
theorem dX10_set_30 : decode cX10_set 30 = .ok (.iconst (-1), 1) := by decide +kernel
theorem dX10_set_31 : decode cX10_set 31 = .ok (.ireturn, 1) := by decide +kernel
theorem dX10_set_32 : decode cX10_set 32 = .ok (.aload_n 0, 1) := by decide +kernel
theorem dX10_set_33 : decode cX10_set 33 = .ok (.getfield 69, 3) := by decide +kernel
theorem dX10_set_36 : decode cX10_set 36 = .ok (.aload_n 0, 1) := by decide +kernel
theorem dX10_set_37 : decode cX10_set 37 = .ok (.getfield 55, 3) := by decide +kernel
theorem dX10_set_40 : decode cX10_set 40 = .ok (.getfield 121, 3) := by decide +kernel
theorem dX10_set_43 : decode cX10_set 43 = .ok (.invokevirtual 223, 3) := by decide +kernel
theorem dX10_set_46 : decode cX10_set 46 = .ok (.aload_n 0, 1) := by decide +kernel
theorem dX10_set_47 : decode cX10_set 47 = .ok (.getfield 55, 3) := by decide +kernel
theorem dX10_set_50 : decode cX10_set 50 = .ok (.getfield 121, 3) := by decide +kernel
theorem dX10_set_53 : decode cX10_set 53 = .ok (.getfield 153, 3) := by decide +kernel
theorem dX10_set_56 : decode cX10_set 56 = .ok (.iload_n 1, 1) := by decide +kernel
theorem dX10_set_57 : decode cX10_set 57 = .ok (.iaload, 1) := by decide +kernel
theorem dX10_set_58 : decode cX10_set 58 = .ok (.istore_n 3, 1) := by decide +kernel
theorem dX10_set_59 : decode cX10_set 59 = .ok (.aload_n 0, 1) := by decide +kernel
theorem dX10_set_60 : decode cX10_set 60 = .ok (.getfield 55, 3) := by decide +kernel
theorem dX10_set_63 : decode cX10_set 63 = .ok (.getfield 121, 3) := by decide +kernel
theorem dX10_set_66 : decode cX10_set 66 = .ok (.getfield 153, 3) := by decide +kernel
theorem dX10_set_69 : decode cX10_set 69 = .ok (.iload_n 1, 1) := by decide +kernel
theorem dX10_set_70 : decode cX10_set 70 = .ok (.iload_n 2, 1) := by decide +kernel
theorem dX10_set_71 : decode cX10_set 71 = .ok (.iastore, 1) := by decide +kernel
theorem dX10_set_72 : decode cX10_set 72 = .ok (.aload_n 0, 1) := by decide +kernel
theorem dX10_set_73 : decode cX10_set 73 = .ok (.getfield 55, 3) := by decide +kernel
theorem dX10_set_76 : decode cX10_set 76 = .ok (.getfield 121, 3) := by decide +kernel
theorem dX10_set_79 : decode cX10_set 79 = .ok (.iload_n 1, 1) := by decide +kernel
theorem dX10_set_80 : decode cX10_set 80 = .ok (.invokevirtual 233, 3) := by decide +kernel
theorem dX10_set_83 : decode cX10_set 83 = .ok (.iload_n 3, 1) := by decide +kernel
theorem dX10_set_84 : decode cX10_set 84 = .ok (.ireturn, 1) := by decide +kernel
theorem dX10_undo_0 : decode cX10_undo 0 = .ok (.aload_n 0, 1) := by decide +kernel
theorem dX10_undo_1 : decode cX10_undo 1 = .ok (.getfield 69, 3) := by decide +kernel
theorem dX10_undo_4 : decode cX10_undo 4 = .ok (.getfield 215, 3) := by decide +kernel
theorem dX10_undo_7 : decode cX10_undo 7 = .ok (.ifCond .ne 5, 3) := by decide +kernel
theorem dX10_undo_10 : decode cX10_undo 10 = .ok (.iconst (-1), 1) := by decide +kernel
theorem dX10_undo_11 : decode cX10_undo 11 = .ok (.ireturn, 1) := by decide +kernel
theorem dX10_undo_12 : decode cX10_undo 12 = .ok (.aload_n 0, 1) := by decide +kernel
theorem dX10_undo_13 : decode cX10_undo 13 = .ok (.getfield 69, 3) := by decide +kernel
theorem dX10_undo_16 : decode cX10_undo 16 = .ok (.aload_n 0, 1) := by decide +kernel
theorem dX10_undo_17 : decode cX10_undo 17 = .ok (.getfield 55, 3) := by decide +kernel
theorem dX10_undo_20 : decode cX10_undo 20 = .ok (.getfield 121, 3) := by decide +kernel
theorem dX10_undo_23 : decode cX10_undo 23 = .ok (.invokevirtual 239, 3) := by decide +kernel
theorem dX10_undo_26 : decode cX10_undo 26 = .ok (.aload_n 0, 1) := by decide +kernel
theorem dX10_undo_27 : decode cX10_undo 27 = .ok (.getfield 69, 3) := by decide +kernel
theorem dX10_undo_30 : decode cX10_undo 30 = .ok (.getfield 215, 3) := by decide +kernel
theorem dX10_undo_33 : decode cX10_undo 33 = .ok (.ireturn, 1) := by decide +kernel
theorem hd_X0_keep : yX0_keep.cls ≠ "java/lang/invoke/MethodHandle" ∧ yX0_keep.cls ≠ "java/lang/invoke/VarHandle" ∧ (parseMethodDescriptor yX0_keep.desc).map (fun d => d.parameters.length) = some 1 := ⟨by decide +kernel, by decide +kernel, by decide +kernel⟩
theorem hd_X0_takeBack : yX0_takeBack.cls ≠ "java/lang/invoke/MethodHandle" ∧ yX0_takeBack.cls ≠ "java/lang/invoke/VarHandle" ∧ (parseMethodDescriptor yX0_takeBack.desc).map (fun d => d.parameters.length) = some 1 := ⟨by decide +kernel, by decide +kernel, by decide +kernel⟩
theorem hd_X10_hasSetLure : yX10_hasSetLure.cls ≠ "java/lang/invoke/MethodHandle" ∧ yX10_hasSetLure.cls ≠ "java/lang/invoke/VarHandle" ∧ (parseMethodDescriptor yX10_hasSetLure.desc).map (fun d => d.parameters.length) = some 1 := ⟨by decide +kernel, by decide +kernel, by decide +kernel⟩
theorem hd_X6_setAgain : yX6_setAgain.cls ≠ "java/lang/invoke/MethodHandle" ∧ yX6_setAgain.cls ≠ "java/lang/invoke/VarHandle" ∧ (parseMethodDescriptor yX6_setAgain.desc).map (fun d => d.parameters.length) = some 1 := ⟨by decide +kernel, by decide +kernel, by decide +kernel⟩
set_option maxHeartbeats 4000000 in
set_option maxRecDepth 100000 in
theorem k_force (l : Launch) (D : va_G) (K : Nat → ClassId) (ad : Nat → Nat) (z : TS) (o : Ok z) (x1 : Int32) : cI l yX10_force cX10_force 3 .int ({ frames := 0, cells := 0, slots := 0, locals := 0 }) D K ad z [.ref (ad 0), .int x1] (fun r u => Ok u ∧ KC z u) := by
  refine t_enterI (by decide) (Nat.le_of_ble_eq_true rfl) rfl rfl ?_
  intro p e s m args below meth c A R Q H locs ls E hfr hlo RET G hl
  have E : mE p s m meth c cX10_force args 3 RX10 D K A := E
  have hl : lv_has ls 3 [(0, .ref (ad 0)), (1, .int x1)] := hl
  refine lv_iload_n E.1 E.2.1 dX10_force_0 rfl (lv_at hl 1 rfl) ?_
  refine lv_iconst (v := (-1)) E.1 E.2.1 dX10_force_1 (by decide) ?_
  refine lv_icmp_lt (tgt := 13) E.1 E.2.1 dX10_force_2 (by decide) (fun c1 => ?_) (fun c1 => ?_)
  · skip
    have b2 : iv (-2147483648) (-2) x1 := lt_l c1 (iv_full x1) (iv_lit (lo := (-1)) (hi := (-1)) (-1) (by decide) (by decide)) (by decide)
    refine lv_bipush (v := (-2)) E.1 E.2.1 dX10_force_13 (by decide) ?_
    exact RET G ⟨o, KC.rf⟩ rfl dX10_force_15
  · skip
    have b3 : iv (-1) 2147483647 x1 := le_r (Int32.not_lt.mp c1) (iv_lit (lo := (-1)) (hi := (-1)) (-1) (by decide) (by decide)) (iv_full x1) (by decide)
    refine lv_iload_n E.1 E.2.1 dX10_force_5 rfl (lv_at hl 1 rfl) ?_
    refine lv_aload_n E.1 E.2.1 dX10_force_6 rfl (lv_at hl 0 rfl) ?_
    refine t_get E G 10 5 (rfl : ro 0 = 10) (C := RX10) (T := TX10) (N := 17) rfl (by decide) (by decide) (by decide) mw_fl_10_43 (fvl_i rfl) dX10_force_7 ?_
    refine lv_topi (fun v4 e5 => ?_)
    have b6 : iv 0 6 v4 := by rw [e5]; exact o.i 10 5 (rfl : ro 0 = 10)
    refine lv_icmp_lt (tgt := 16) E.1 E.2.1 dX10_force_10 (by decide) (fun c7 => ?_) (fun c7 => ?_)
    · skip
      have b8 : iv (-1) 5 x1 := lt_l c7 b3 b6 (by decide)
      refine lv_aload_n E.1 E.2.1 dX10_force_16 rfl (lv_at hl 0 rfl) ?_
      refine t_get E G 10 7 (rfl : ro 0 = 10) (C := RX10) (T := TX10) (N := 17) rfl (by decide) (by decide) (by decide) mw_fl_10_55 (v := .ref (ad 56)) (fvl_o (n := 56) rfl) dX10_force_17 ?_
      refine t_get E G 2 3 (rfl : ro 56 = 2) (C := RX2) (T := TX2) (N := 5) rfl (by decide) (by decide) (by decide) mw_fl_10_146 (fvl_i rfl) dX10_force_20 ?_
      refine lv_topi (fun v9 e10 => ?_)
      refine lv_istore_n (lv' := [(2, .int v9), (0, .ref (ad 0)), (1, .int x1)]) E.1 E.2.1 dX10_force_23 rfl hl (by decide) rfl (fun ls hl => ?_)
      refine lv_aload_n E.1 E.2.1 dX10_force_24 rfl (lv_at hl 1 rfl) ?_
      refine t_get E G 10 7 (rfl : ro 0 = 10) (C := RX10) (T := TX10) (N := 17) rfl (by decide) (by decide) (by decide) mw_fl_10_55 (v := .ref (ad 56)) (fvl_o (n := 56) rfl) dX10_force_25 ?_
      refine lv_iload_n E.1 E.2.1 dX10_force_28 rfl (lv_at hl 2 rfl) ?_
      refine t_puti E G 2 3 (rfl : ro 56 = 2) (C := RX2) (T := TX2) (N := 5) rfl (by decide) (by decide) (by decide) rfl rfl mw_fl_10_146 rfl dX10_force_29 (fun H locs G => ?_)
      obtain ⟨zz11, G, oo12, kk13, h14, h15⟩ : ∃ u : TS, mG D A s H locs (wd K ad u) ∧ Ok u ∧ KC z u ∧ tI u 0 5 = v4 ∧ tI u 56 3 = x1 := ⟨_, G, ok_i o 2 (rfl : ro 56 = 2) (iv_mono b8 (by decide) (by decide)) (by decide), KC.tr KC.rf (KC_i 2 (rfl : ro 56 = 2) (by decide)), (sI_k e5.symm (by decide)), sI_self⟩
      refine lv_iload_n E.1 E.2.1 dX10_force_32 rfl (lv_at hl 0 rfl) ?_
      exact RET G ⟨oo12, kk13⟩ rfl dX10_force_33
    · skip
      have b16 : iv 0 2147483647 x1 := le_r (Int32.not_lt.mp c7) b6 b3 (by decide)
      refine lv_bipush (v := (-2)) E.1 E.2.1 dX10_force_13 (by decide) ?_
      exact RET G ⟨o, KC.rf⟩ rfl dX10_force_15
set_option maxHeartbeats 4000000 in
set_option maxRecDepth 100000 in
theorem k_set (l : Launch) (D : va_G) (K : Nat → ClassId) (ad : Nat → Nat) (z : TS) (o : Ok z) (x1 : Int32) (x2 : Int32) : cI l yX10_set cX10_set 4 .int ({ frames := 3, cells := 0, slots := 0, locals := 68 }) D K ad z [.ref (ad 0), .int x1, .int x2] (fun r u => Ok u ∧ KC z u) := by
  refine t_enterI (by decide) (Nat.le_of_ble_eq_true rfl) rfl rfl ?_
  intro p e s m args below meth c A R Q H locs ls E hfr hlo RET G hl
  have E : mE p s m meth c cX10_set args 4 RX10 D K A := E
  have hl : lv_has ls 4 [(0, .ref (ad 0)), (1, .int x1), (2, .int x2)] := hl
  refine lv_aload_n E.1 E.2.1 dX10_set_0 rfl (lv_at hl 0 rfl) ?_
  refine lv_iload_n E.1 E.2.1 dX10_set_1 rfl (lv_at hl 1 rfl) ?_
  refine t_vi E G hl (h_lure l D K ad z o x1) 10 (rfl : ro 0 = 10) (by decide) rfl rfl 1 rfl mw_code_X10_hasLure mw_ini_10 mw_ml_10_149 mw_inst_X10_hasLure mw_sel_X10_hasLure hd_X10_hasLure ⟨Nat.le_trans (by decide) hfr, Nat.le_trans (by decide) hlo⟩ rfl rfl rfl (Nat.le_of_ble_eq_true rfl) dX10_set_2 (fun r2 zz1 H locs hp3 G => ?_)
  obtain ⟨hz6, b4, h5⟩ := hp3
  rw [hz6] at G
  refine lv_if_eq (tgt := 30) E.1 E.2.1 dX10_set_5 (by decide) (fun c7 => ?_) (fun c7 => ?_)
  · skip
    have b8 : iv 0 0 r2 := iv_eq c7 (iv_lit (lo := 0) (hi := 0) 0 (by decide) (by decide))
    refine lv_iconst (v := (-1)) E.1 E.2.1 dX10_set_30 (by decide) ?_
    exact RET G ⟨o, KC.rf⟩ rfl dX10_set_31
  · skip
    have b9 : iv 1 1 r2 := ne_lo c7 b4 (by decide) (by decide)
    have b10 : iv 0 5 x1 := h5 c7
    refine lv_aload_n E.1 E.2.1 dX10_set_8 rfl (lv_at hl 0 rfl) ?_
    refine lv_iload_n E.1 E.2.1 dX10_set_9 rfl (lv_at hl 2 rfl) ?_
    refine t_vi E G hl (h_corner l D K ad z o x2) 10 (rfl : ro 0 = 10) (by decide) rfl rfl 1 rfl mw_code_X10_hasCorner mw_ini_10 mw_ml_10_186 mw_inst_X10_hasCorner mw_sel_X10_hasCorner hd_X10_hasCorner ⟨Nat.le_trans (by decide) hfr, Nat.le_trans (by decide) hlo⟩ rfl rfl rfl (Nat.le_of_ble_eq_true rfl) dX10_set_10 (fun r12 zz11 H locs hp13 G => ?_)
    obtain ⟨hz16, b14, h15⟩ := hp13
    rw [hz16] at G
    refine lv_if_eq (tgt := 30) E.1 E.2.1 dX10_set_13 (by decide) (fun c17 => ?_) (fun c17 => ?_)
    · skip
      have b18 : iv 0 0 r12 := iv_eq c17 (iv_lit (lo := 0) (hi := 0) 0 (by decide) (by decide))
      refine lv_iconst (v := (-1)) E.1 E.2.1 dX10_set_30 (by decide) ?_
      exact RET G ⟨o, KC.rf⟩ rfl dX10_set_31
    · skip
      have b19 : iv 1 1 r12 := ne_lo c17 b14 (by decide) (by decide)
      have b20 : iv 0 7 x2 := h15 c17
      refine lv_aload_n E.1 E.2.1 dX10_set_16 rfl (lv_at hl 0 rfl) ?_
      refine t_get E G 10 7 (rfl : ro 0 = 10) (C := RX10) (T := TX10) (N := 17) rfl (by decide) (by decide) (by decide) mw_fl_10_55 (v := .ref (ad 56)) (fvl_o (n := 56) rfl) dX10_set_17 ?_
      refine t_get E G 2 1 (rfl : ro 56 = 2) (C := RX2) (T := TX2) (N := 5) rfl (by decide) (by decide) (by decide) mw_fl_10_121 (v := .ref (ad 70)) (fvl_o (n := 14) rfl) dX10_set_20 ?_
      refine lv_iload_n E.1 E.2.1 dX10_set_23 rfl (lv_at hl 1 rfl) ?_
      refine t_vi E G hl (s_isSet l D K ad z o 70 (by decide : at_ 6 70 = true) x1) 6 (rfl : ro 70 = 6) (by decide) rfl rfl 1 rfl mw_code_X6_isSet mw_ini_6 mw_ml_10_165 mw_inst_X6_isSet mw_sel_X6_isSet hd_X6_isSet ⟨Nat.le_trans (by decide) hfr, Nat.le_trans (by decide) hlo⟩ rfl rfl rfl (Nat.le_of_ble_eq_true rfl) dX10_set_24 (fun r22 zz21 H locs hp23 G => ?_)
      obtain ⟨hz25, b24⟩ := hp23
      rw [hz25] at G
      refine lv_if_eq (tgt := 32) E.1 E.2.1 dX10_set_27 (by decide) (fun c26 => ?_) (fun c26 => ?_)
      · skip
        have b27 : iv 0 0 r22 := iv_eq c26 (iv_lit (lo := 0) (hi := 0) 0 (by decide) (by decide))
        refine lv_aload_n E.1 E.2.1 dX10_set_32 rfl (lv_at hl 0 rfl) ?_
        refine t_get E G 10 10 (rfl : ro 0 = 10) (C := RX10) (T := TX10) (N := 17) rfl (by decide) (by decide) (by decide) mw_fl_10_69 (v := .ref (ad 182)) (fvl_o (n := 182) rfl) dX10_set_33 ?_
        refine lv_aload_n E.1 E.2.1 dX10_set_36 rfl (lv_at hl 0 rfl) ?_
        refine t_get E G 10 7 (rfl : ro 0 = 10) (C := RX10) (T := TX10) (N := 17) rfl (by decide) (by decide) (by decide) mw_fl_10_55 (v := .ref (ad 56)) (fvl_o (n := 56) rfl) dX10_set_37 ?_
        refine t_get E G 2 1 (rfl : ro 56 = 2) (C := RX2) (T := TX2) (N := 5) rfl (by decide) (by decide) (by decide) mw_fl_10_121 (v := .ref (ad 70)) (fvl_o (n := 14) rfl) dX10_set_40 ?_
        refine t_vv E G hl (a_keep l D K ad z o 70 (by decide : at_ 6 70 = true)) 0 (rfl : ro 182 = 0) (by decide) rfl rfl 1 rfl mw_code_X0_keep mw_ini_0 mw_ml_10_223 mw_inst_X0_keep mw_sel_X0_keep hd_X0_keep ⟨Nat.le_trans (by decide) hfr, Nat.le_trans (by decide) hlo⟩ rfl rfl rfl (Nat.le_of_ble_eq_true rfl) dX10_set_43 (fun zz28 H locs hp30 G => ?_)
        obtain ⟨oo31, kk32⟩ := hp30
        have kk33 : KC z zz28 := KC.tr KC.rf kk32
        refine lv_aload_n E.1 E.2.1 dX10_set_46 rfl (lv_at hl 0 rfl) ?_
        refine t_get E G 10 7 (rfl : ro 0 = 10) (C := RX10) (T := TX10) (N := 17) rfl (by decide) (by decide) (by decide) mw_fl_10_55 (v := .ref (ad 56)) (fvl_o (n := 56) rfl) dX10_set_47 ?_
        refine t_get E G 2 1 (rfl : ro 56 = 2) (C := RX2) (T := TX2) (N := 5) rfl (by decide) (by decide) (by decide) mw_fl_10_121 (v := .ref (ad 70)) (fvl_o (n := 14) rfl) dX10_set_50 ?_
        refine t_get E G 6 4 (rfl : ro 70 = 6) (C := RX6) (T := TX6) (N := 8) rfl (by decide) (by decide) (by decide) mw_fl_10_153 (v := .ref (ad 75)) (fvl_o (n := 5) rfl) dX10_set_53 ?_
        refine lv_iload_n E.1 E.2.1 dX10_set_56 rfl (lv_at hl 1 rfl) ?_
        refine t_iald E G 23 (rfl : ro 75 = 23) (by decide) (by decide) rfl (n := 6) rfl (iv_vp b10 (by decide) (by decide)) dX10_set_57 ?_
        refine lv_topi (fun v34 e35 => ?_)
        refine lv_istore_n (lv' := [(3, .int v34), (0, .ref (ad 0)), (1, .int x1), (2, .int x2)]) E.1 E.2.1 dX10_set_58 rfl hl (by decide) rfl (fun ls hl => ?_)
        refine lv_aload_n E.1 E.2.1 dX10_set_59 rfl (lv_at hl 1 rfl) ?_
        refine t_get E G 10 7 (rfl : ro 0 = 10) (C := RX10) (T := TX10) (N := 17) rfl (by decide) (by decide) (by decide) mw_fl_10_55 (v := .ref (ad 56)) (fvl_o (n := 56) rfl) dX10_set_60 ?_
        refine t_get E G 2 1 (rfl : ro 56 = 2) (C := RX2) (T := TX2) (N := 5) rfl (by decide) (by decide) (by decide) mw_fl_10_121 (v := .ref (ad 70)) (fvl_o (n := 14) rfl) dX10_set_63 ?_
        refine t_get E G 6 4 (rfl : ro 70 = 6) (C := RX6) (T := TX6) (N := 8) rfl (by decide) (by decide) (by decide) mw_fl_10_153 (v := .ref (ad 75)) (fvl_o (n := 5) rfl) dX10_set_66 ?_
        refine lv_iload_n E.1 E.2.1 dX10_set_69 rfl (lv_at hl 2 rfl) ?_
        refine lv_iload_n E.1 E.2.1 dX10_set_70 rfl (lv_at hl 3 rfl) ?_
        refine t_iast E G 23 (rfl : ro 75 = 23) (by decide) (by decide) rfl (n := 6) rfl (iv_vp b10 (by decide) (by decide)) dX10_set_71 (fun H locs G => ?_)
        obtain ⟨zz36, G, oo37, kk38⟩ : ∃ u : TS, mG D A s H locs (wd K ad u) ∧ Ok u ∧ KC z u := ⟨_, G, ok_uc oo31 23 (rfl : ro 75 = 23) (by decide) (iv_mono b20 (by decide) (by decide)) (by decide), KC.tr kk33 (KC_r 23 (rfl : ro 75 = 23) (by decide))⟩
        refine lv_aload_n E.1 E.2.1 dX10_set_72 rfl (lv_at hl 1 rfl) ?_
        refine t_get E G 10 7 (rfl : ro 0 = 10) (C := RX10) (T := TX10) (N := 17) rfl (by decide) (by decide) (by decide) mw_fl_10_55 (v := .ref (ad 56)) (fvl_o (n := 56) rfl) dX10_set_73 ?_
        refine t_get E G 2 1 (rfl : ro 56 = 2) (C := RX2) (T := TX2) (N := 5) rfl (by decide) (by decide) (by decide) mw_fl_10_121 (v := .ref (ad 70)) (fvl_o (n := 14) rfl) dX10_set_76 ?_
        refine lv_iload_n E.1 E.2.1 dX10_set_79 rfl (lv_at hl 2 rfl) ?_
        refine t_vv E G hl (s_setAgain l D K ad zz36 oo37 70 (by decide : at_ 6 70 = true) x1) 6 (rfl : ro 70 = 6) (by decide) rfl rfl 1 rfl mw_code_X6_setAgain mw_ini_6 mw_ml_10_233 mw_inst_X6_setAgain mw_sel_X6_setAgain hd_X6_setAgain ⟨Nat.le_trans (by decide) hfr, Nat.le_trans (by decide) hlo⟩ rfl rfl rfl (Nat.le_of_ble_eq_true rfl) dX10_set_80 (fun zz39 H locs hp41 G => ?_)
        obtain ⟨oo42, kk43⟩ := hp41
        have kk44 : KC z zz39 := KC.tr kk38 (KS.c kk43)
        refine lv_iload_n E.1 E.2.1 dX10_set_83 rfl (lv_at hl 0 rfl) ?_
        exact RET G ⟨oo42, kk44⟩ rfl dX10_set_84
      · skip
        have b45 : iv 1 1 r22 := ne_lo c26 b24 (by decide) (by decide)
        refine lv_iconst (v := (-1)) E.1 E.2.1 dX10_set_30 (by decide) ?_
        exact RET G ⟨o, KC.rf⟩ rfl dX10_set_31
set_option maxHeartbeats 4000000 in
set_option maxRecDepth 100000 in
theorem k_move (l : Launch) (D : va_G) (K : Nat → ClassId) (ad : Nat → Nat) (z : TS) (o : Ok z) (x1 : Int32) (x2 : Int32) : cI l yX10_move cX10_move 4 .int ({ frames := 3, cells := 0, slots := 0, locals := 68 }) D K ad z [.ref (ad 0), .int x1, .int x2] (fun r u => Ok u ∧ KC z u) := by
  refine t_enterI (by decide) (Nat.le_of_ble_eq_true rfl) rfl rfl ?_
  intro p e s m args below meth c A R Q H locs ls E hfr hlo RET G hl
  have E : mE p s m meth c cX10_move args 4 RX10 D K A := E
  have hl : lv_has ls 4 [(0, .ref (ad 0)), (1, .int x1), (2, .int x2)] := hl
  refine lv_aload_n E.1 E.2.1 dX10_move_0 rfl (lv_at hl 0 rfl) ?_
  refine lv_iload_n E.1 E.2.1 dX10_move_1 rfl (lv_at hl 1 rfl) ?_
  refine t_vi E G hl (h_setLure l D K ad z o x1) 10 (rfl : ro 0 = 10) (by decide) rfl rfl 1 rfl mw_code_X10_hasSetLure mw_ini_10 mw_ml_10_236 mw_inst_X10_hasSetLure mw_sel_X10_hasSetLure hd_X10_hasSetLure ⟨Nat.le_trans (by decide) hfr, Nat.le_trans (by decide) hlo⟩ rfl rfl rfl (Nat.le_of_ble_eq_true rfl) dX10_move_2 (fun r2 zz1 H locs hp3 G => ?_)
  obtain ⟨hz6, b4, h5⟩ := hp3
  rw [hz6] at G
  refine lv_if_eq (tgt := 32) E.1 E.2.1 dX10_move_5 (by decide) (fun c7 => ?_) (fun c7 => ?_)
  · skip
    have b8 : iv 0 0 r2 := iv_eq c7 (iv_lit (lo := 0) (hi := 0) 0 (by decide) (by decide))
    refine lv_iconst (v := (-1)) E.1 E.2.1 dX10_move_32 (by decide) ?_
    exact RET G ⟨o, KC.rf⟩ rfl dX10_move_33
  · skip
    have b9 : iv 1 1 r2 := ne_lo c7 b4 (by decide) (by decide)
    have b10 : iv 0 5 x1 := h5 c7
    refine lv_aload_n E.1 E.2.1 dX10_move_8 rfl (lv_at hl 0 rfl) ?_
    refine lv_iload_n E.1 E.2.1 dX10_move_9 rfl (lv_at hl 2 rfl) ?_
    refine t_vi E G hl (h_corner l D K ad z o x2) 10 (rfl : ro 0 = 10) (by decide) rfl rfl 1 rfl mw_code_X10_hasCorner mw_ini_10 mw_ml_10_186 mw_inst_X10_hasCorner mw_sel_X10_hasCorner hd_X10_hasCorner ⟨Nat.le_trans (by decide) hfr, Nat.le_trans (by decide) hlo⟩ rfl rfl rfl (Nat.le_of_ble_eq_true rfl) dX10_move_10 (fun r12 zz11 H locs hp13 G => ?_)
    obtain ⟨hz16, b14, h15⟩ := hp13
    rw [hz16] at G
    refine lv_if_eq (tgt := 32) E.1 E.2.1 dX10_move_13 (by decide) (fun c17 => ?_) (fun c17 => ?_)
    · skip
      have b18 : iv 0 0 r12 := iv_eq c17 (iv_lit (lo := 0) (hi := 0) 0 (by decide) (by decide))
      refine lv_iconst (v := (-1)) E.1 E.2.1 dX10_move_32 (by decide) ?_
      exact RET G ⟨o, KC.rf⟩ rfl dX10_move_33
    · skip
      have b19 : iv 1 1 r12 := ne_lo c17 b14 (by decide) (by decide)
      have b20 : iv 0 7 x2 := h15 c17
      refine lv_aload_n E.1 E.2.1 dX10_move_16 rfl (lv_at hl 0 rfl) ?_
      refine t_get E G 10 7 (rfl : ro 0 = 10) (C := RX10) (T := TX10) (N := 17) rfl (by decide) (by decide) (by decide) mw_fl_10_55 (v := .ref (ad 56)) (fvl_o (n := 56) rfl) dX10_move_17 ?_
      refine t_get E G 2 1 (rfl : ro 56 = 2) (C := RX2) (T := TX2) (N := 5) rfl (by decide) (by decide) (by decide) mw_fl_10_121 (v := .ref (ad 70)) (fvl_o (n := 14) rfl) dX10_move_20 ?_
      refine t_get E G 6 4 (rfl : ro 70 = 6) (C := RX6) (T := TX6) (N := 8) rfl (by decide) (by decide) (by decide) mw_fl_10_153 (v := .ref (ad 75)) (fvl_o (n := 5) rfl) dX10_move_23 ?_
      refine lv_iload_n E.1 E.2.1 dX10_move_26 rfl (lv_at hl 1 rfl) ?_
      refine t_iald E G 23 (rfl : ro 75 = 23) (by decide) (by decide) rfl (n := 6) rfl (iv_vp b10 (by decide) (by decide)) dX10_move_27 ?_
      refine lv_topi (fun v21 e22 => ?_)
      refine lv_iload_n E.1 E.2.1 dX10_move_28 rfl (lv_at hl 2 rfl) ?_
      refine lv_icmp_ne (tgt := 34) E.1 E.2.1 dX10_move_29 (by decide) (fun c23 => ?_) (fun c23 => ?_)
      · skip
        refine lv_aload_n E.1 E.2.1 dX10_move_34 rfl (lv_at hl 0 rfl) ?_
        refine t_get E G 10 10 (rfl : ro 0 = 10) (C := RX10) (T := TX10) (N := 17) rfl (by decide) (by decide) (by decide) mw_fl_10_69 (v := .ref (ad 182)) (fvl_o (n := 182) rfl) dX10_move_35 ?_
        refine lv_aload_n E.1 E.2.1 dX10_move_38 rfl (lv_at hl 0 rfl) ?_
        refine t_get E G 10 7 (rfl : ro 0 = 10) (C := RX10) (T := TX10) (N := 17) rfl (by decide) (by decide) (by decide) mw_fl_10_55 (v := .ref (ad 56)) (fvl_o (n := 56) rfl) dX10_move_39 ?_
        refine t_get E G 2 1 (rfl : ro 56 = 2) (C := RX2) (T := TX2) (N := 5) rfl (by decide) (by decide) (by decide) mw_fl_10_121 (v := .ref (ad 70)) (fvl_o (n := 14) rfl) dX10_move_42 ?_
        refine t_vv E G hl (a_keep l D K ad z o 70 (by decide : at_ 6 70 = true)) 0 (rfl : ro 182 = 0) (by decide) rfl rfl 1 rfl mw_code_X0_keep mw_ini_0 mw_ml_10_223 mw_inst_X0_keep mw_sel_X0_keep hd_X0_keep ⟨Nat.le_trans (by decide) hfr, Nat.le_trans (by decide) hlo⟩ rfl rfl rfl (Nat.le_of_ble_eq_true rfl) dX10_move_45 (fun zz24 H locs hp26 G => ?_)
        obtain ⟨oo27, kk28⟩ := hp26
        have kk29 : KC z zz24 := KC.tr KC.rf kk28
        refine lv_aload_n E.1 E.2.1 dX10_move_48 rfl (lv_at hl 0 rfl) ?_
        refine t_get E G 10 7 (rfl : ro 0 = 10) (C := RX10) (T := TX10) (N := 17) rfl (by decide) (by decide) (by decide) mw_fl_10_55 (v := .ref (ad 56)) (fvl_o (n := 56) rfl) dX10_move_49 ?_
        refine t_get E G 2 1 (rfl : ro 56 = 2) (C := RX2) (T := TX2) (N := 5) rfl (by decide) (by decide) (by decide) mw_fl_10_121 (v := .ref (ad 70)) (fvl_o (n := 14) rfl) dX10_move_52 ?_
        refine t_get E G 6 4 (rfl : ro 70 = 6) (C := RX6) (T := TX6) (N := 8) rfl (by decide) (by decide) (by decide) mw_fl_10_153 (v := .ref (ad 75)) (fvl_o (n := 5) rfl) dX10_move_55 ?_
        refine lv_iload_n E.1 E.2.1 dX10_move_58 rfl (lv_at hl 1 rfl) ?_
        refine t_iald E G 23 (rfl : ro 75 = 23) (by decide) (by decide) rfl (n := 6) rfl (iv_vp b10 (by decide) (by decide)) dX10_move_59 ?_
        refine lv_topi (fun v30 e31 => ?_)
        refine lv_istore_n (lv' := [(3, .int v30), (0, .ref (ad 0)), (1, .int x1), (2, .int x2)]) E.1 E.2.1 dX10_move_60 rfl hl (by decide) rfl (fun ls hl => ?_)
        refine lv_aload_n E.1 E.2.1 dX10_move_61 rfl (lv_at hl 1 rfl) ?_
        refine t_get E G 10 7 (rfl : ro 0 = 10) (C := RX10) (T := TX10) (N := 17) rfl (by decide) (by decide) (by decide) mw_fl_10_55 (v := .ref (ad 56)) (fvl_o (n := 56) rfl) dX10_move_62 ?_
        refine t_get E G 2 1 (rfl : ro 56 = 2) (C := RX2) (T := TX2) (N := 5) rfl (by decide) (by decide) (by decide) mw_fl_10_121 (v := .ref (ad 70)) (fvl_o (n := 14) rfl) dX10_move_65 ?_
        refine t_get E G 6 4 (rfl : ro 70 = 6) (C := RX6) (T := TX6) (N := 8) rfl (by decide) (by decide) (by decide) mw_fl_10_153 (v := .ref (ad 75)) (fvl_o (n := 5) rfl) dX10_move_68 ?_
        refine lv_iload_n E.1 E.2.1 dX10_move_71 rfl (lv_at hl 2 rfl) ?_
        refine lv_iload_n E.1 E.2.1 dX10_move_72 rfl (lv_at hl 3 rfl) ?_
        refine t_iast E G 23 (rfl : ro 75 = 23) (by decide) (by decide) rfl (n := 6) rfl (iv_vp b10 (by decide) (by decide)) dX10_move_73 (fun H locs G => ?_)
        obtain ⟨zz32, G, oo33, kk34⟩ : ∃ u : TS, mG D A s H locs (wd K ad u) ∧ Ok u ∧ KC z u := ⟨_, G, ok_uc oo27 23 (rfl : ro 75 = 23) (by decide) (iv_mono b20 (by decide) (by decide)) (by decide), KC.tr kk29 (KC_r 23 (rfl : ro 75 = 23) (by decide))⟩
        refine lv_iload_n E.1 E.2.1 dX10_move_74 rfl (lv_at hl 0 rfl) ?_
        exact RET G ⟨oo33, kk34⟩ rfl dX10_move_75
      · skip
        refine lv_iconst (v := (-1)) E.1 E.2.1 dX10_move_32 (by decide) ?_
        exact RET G ⟨o, KC.rf⟩ rfl dX10_move_33
set_option maxHeartbeats 4000000 in
set_option maxRecDepth 100000 in
theorem k_bait (l : Launch) (D : va_G) (K : Nat → ClassId) (ad : Nat → Nat) (z : TS) (o : Ok z) (x1 : Int32) (x2 : Int32) : cI l yX10_bait cX10_bait 4 .int ({ frames := 3, cells := 0, slots := 0, locals := 68 }) D K ad z [.ref (ad 0), .int x1, .int x2] (fun r u => Ok u ∧ KC z u) := by
  refine t_enterI (by decide) (Nat.le_of_ble_eq_true rfl) rfl rfl ?_
  intro p e s m args below meth c A R Q H locs ls E hfr hlo RET G hl
  have E : mE p s m meth c cX10_bait args 4 RX10 D K A := E
  have hl : lv_has ls 4 [(0, .ref (ad 0)), (1, .int x1), (2, .int x2)] := hl
  refine lv_aload_n E.1 E.2.1 dX10_bait_0 rfl (lv_at hl 0 rfl) ?_
  refine lv_iload_n E.1 E.2.1 dX10_bait_1 rfl (lv_at hl 1 rfl) ?_
  refine t_vi E G hl (h_lure l D K ad z o x1) 10 (rfl : ro 0 = 10) (by decide) rfl rfl 1 rfl mw_code_X10_hasLure mw_ini_10 mw_ml_10_149 mw_inst_X10_hasLure mw_sel_X10_hasLure hd_X10_hasLure ⟨Nat.le_trans (by decide) hfr, Nat.le_trans (by decide) hlo⟩ rfl rfl rfl (Nat.le_of_ble_eq_true rfl) dX10_bait_2 (fun r2 zz1 H locs hp3 G => ?_)
  obtain ⟨hz6, b4, h5⟩ := hp3
  rw [hz6] at G
  refine lv_if_eq (tgt := 34) E.1 E.2.1 dX10_bait_5 (by decide) (fun c7 => ?_) (fun c7 => ?_)
  · skip
    have b8 : iv 0 0 r2 := iv_eq c7 (iv_lit (lo := 0) (hi := 0) 0 (by decide) (by decide))
    refine lv_iconst (v := (-1)) E.1 E.2.1 dX10_bait_34 (by decide) ?_
    exact RET G ⟨o, KC.rf⟩ rfl dX10_bait_35
  · skip
    have b9 : iv 1 1 r2 := ne_lo c7 b4 (by decide) (by decide)
    have b10 : iv 0 5 x1 := h5 c7
    refine lv_iload_n E.1 E.2.1 dX10_bait_8 rfl (lv_at hl 2 rfl) ?_
    refine lv_if_lt (tgt := 34) E.1 E.2.1 dX10_bait_9 (by decide) (fun c11 => ?_) (fun c11 => ?_)
    · skip
      have b12 : iv (-2147483648) (-1) x2 := lt_l c11 (iv_full x2) (iv_lit (lo := 0) (hi := 0) 0 (by decide) (by decide)) (by decide)
      refine lv_iconst (v := (-1)) E.1 E.2.1 dX10_bait_34 (by decide) ?_
      exact RET G ⟨o, KC.rf⟩ rfl dX10_bait_35
    · skip
      have b13 : iv 0 2147483647 x2 := le_r (Int32.not_lt.mp c11) (iv_lit (lo := 0) (hi := 0) 0 (by decide) (by decide)) (iv_full x2) (by decide)
      refine lv_iload_n E.1 E.2.1 dX10_bait_12 rfl (lv_at hl 2 rfl) ?_
      refine lv_bipush (v := 8) E.1 E.2.1 dX10_bait_13 (by decide) ?_
      refine lv_icmp_ge (tgt := 34) E.1 E.2.1 dX10_bait_15 (by decide) (fun c14 => ?_) (fun c14 => ?_)
      · skip
        have b15 : iv 8 2147483647 x2 := le_r c14 (iv_lit (lo := 8) (hi := 8) 8 (by decide) (by decide)) b13 (by decide)
        refine lv_iconst (v := (-1)) E.1 E.2.1 dX10_bait_34 (by decide) ?_
        exact RET G ⟨o, KC.rf⟩ rfl dX10_bait_35
      · skip
        have b16 : iv 0 7 x2 := lt_l (Int32.not_le.mp c14) b13 (iv_lit (lo := 8) (hi := 8) 8 (by decide) (by decide)) (by decide)
        refine lv_aload_n E.1 E.2.1 dX10_bait_18 rfl (lv_at hl 0 rfl) ?_
        refine t_get E G 10 7 (rfl : ro 0 = 10) (C := RX10) (T := TX10) (N := 17) rfl (by decide) (by decide) (by decide) mw_fl_10_55 (v := .ref (ad 56)) (fvl_o (n := 56) rfl) dX10_bait_19 ?_
        refine t_get E G 2 1 (rfl : ro 56 = 2) (C := RX2) (T := TX2) (N := 5) rfl (by decide) (by decide) (by decide) mw_fl_10_121 (v := .ref (ad 70)) (fvl_o (n := 14) rfl) dX10_bait_22 ?_
        refine t_get E G 6 5 (rfl : ro 70 = 6) (C := RX6) (T := TX6) (N := 8) rfl (by decide) (by decide) (by decide) mw_fl_10_156 (v := .ref (ad 76)) (fvl_o (n := 6) rfl) dX10_bait_25 ?_
        refine lv_iload_n E.1 E.2.1 dX10_bait_28 rfl (lv_at hl 1 rfl) ?_
        refine t_iald E G 23 (rfl : ro 76 = 23) (by decide) (by decide) rfl (n := 6) rfl (iv_vp b10 (by decide) (by decide)) dX10_bait_29 ?_
        refine lv_topi (fun v17 e18 => ?_)
        refine lv_iload_n E.1 E.2.1 dX10_bait_30 rfl (lv_at hl 2 rfl) ?_
        refine lv_icmp_ne (tgt := 36) E.1 E.2.1 dX10_bait_31 (by decide) (fun c19 => ?_) (fun c19 => ?_)
        · skip
          refine lv_aload_n E.1 E.2.1 dX10_bait_36 rfl (lv_at hl 0 rfl) ?_
          refine t_get E G 10 10 (rfl : ro 0 = 10) (C := RX10) (T := TX10) (N := 17) rfl (by decide) (by decide) (by decide) mw_fl_10_69 (v := .ref (ad 182)) (fvl_o (n := 182) rfl) dX10_bait_37 ?_
          refine lv_aload_n E.1 E.2.1 dX10_bait_40 rfl (lv_at hl 0 rfl) ?_
          refine t_get E G 10 7 (rfl : ro 0 = 10) (C := RX10) (T := TX10) (N := 17) rfl (by decide) (by decide) (by decide) mw_fl_10_55 (v := .ref (ad 56)) (fvl_o (n := 56) rfl) dX10_bait_41 ?_
          refine t_get E G 2 1 (rfl : ro 56 = 2) (C := RX2) (T := TX2) (N := 5) rfl (by decide) (by decide) (by decide) mw_fl_10_121 (v := .ref (ad 70)) (fvl_o (n := 14) rfl) dX10_bait_44 ?_
          refine t_vv E G hl (a_keep l D K ad z o 70 (by decide : at_ 6 70 = true)) 0 (rfl : ro 182 = 0) (by decide) rfl rfl 1 rfl mw_code_X0_keep mw_ini_0 mw_ml_10_223 mw_inst_X0_keep mw_sel_X0_keep hd_X0_keep ⟨Nat.le_trans (by decide) hfr, Nat.le_trans (by decide) hlo⟩ rfl rfl rfl (Nat.le_of_ble_eq_true rfl) dX10_bait_47 (fun zz20 H locs hp22 G => ?_)
          obtain ⟨oo23, kk24⟩ := hp22
          have kk25 : KC z zz20 := KC.tr KC.rf kk24
          refine lv_aload_n E.1 E.2.1 dX10_bait_50 rfl (lv_at hl 0 rfl) ?_
          refine t_get E G 10 7 (rfl : ro 0 = 10) (C := RX10) (T := TX10) (N := 17) rfl (by decide) (by decide) (by decide) mw_fl_10_55 (v := .ref (ad 56)) (fvl_o (n := 56) rfl) dX10_bait_51 ?_
          refine t_get E G 2 1 (rfl : ro 56 = 2) (C := RX2) (T := TX2) (N := 5) rfl (by decide) (by decide) (by decide) mw_fl_10_121 (v := .ref (ad 70)) (fvl_o (n := 14) rfl) dX10_bait_54 ?_
          refine t_get E G 6 5 (rfl : ro 70 = 6) (C := RX6) (T := TX6) (N := 8) rfl (by decide) (by decide) (by decide) mw_fl_10_156 (v := .ref (ad 76)) (fvl_o (n := 6) rfl) dX10_bait_57 ?_
          refine lv_iload_n E.1 E.2.1 dX10_bait_60 rfl (lv_at hl 1 rfl) ?_
          refine t_iald E G 23 (rfl : ro 76 = 23) (by decide) (by decide) rfl (n := 6) rfl (iv_vp b10 (by decide) (by decide)) dX10_bait_61 ?_
          refine lv_topi (fun v26 e27 => ?_)
          refine lv_istore_n (lv' := [(3, .int v26), (0, .ref (ad 0)), (1, .int x1), (2, .int x2)]) E.1 E.2.1 dX10_bait_62 rfl hl (by decide) rfl (fun ls hl => ?_)
          refine lv_aload_n E.1 E.2.1 dX10_bait_63 rfl (lv_at hl 1 rfl) ?_
          refine t_get E G 10 7 (rfl : ro 0 = 10) (C := RX10) (T := TX10) (N := 17) rfl (by decide) (by decide) (by decide) mw_fl_10_55 (v := .ref (ad 56)) (fvl_o (n := 56) rfl) dX10_bait_64 ?_
          refine t_get E G 2 1 (rfl : ro 56 = 2) (C := RX2) (T := TX2) (N := 5) rfl (by decide) (by decide) (by decide) mw_fl_10_121 (v := .ref (ad 70)) (fvl_o (n := 14) rfl) dX10_bait_67 ?_
          refine t_get E G 6 5 (rfl : ro 70 = 6) (C := RX6) (T := TX6) (N := 8) rfl (by decide) (by decide) (by decide) mw_fl_10_156 (v := .ref (ad 76)) (fvl_o (n := 6) rfl) dX10_bait_70 ?_
          refine lv_iload_n E.1 E.2.1 dX10_bait_73 rfl (lv_at hl 2 rfl) ?_
          refine lv_iload_n E.1 E.2.1 dX10_bait_74 rfl (lv_at hl 3 rfl) ?_
          refine t_iast E G 23 (rfl : ro 76 = 23) (by decide) (by decide) rfl (n := 6) rfl (iv_vp b10 (by decide) (by decide)) dX10_bait_75 (fun H locs G => ?_)
          obtain ⟨zz28, G, oo29, kk30⟩ : ∃ u : TS, mG D A s H locs (wd K ad u) ∧ Ok u ∧ KC z u := ⟨_, G, ok_uc oo23 23 (rfl : ro 76 = 23) (by decide) (iv_mono b16 (by decide) (by decide)) (by decide), KC.tr kk25 (KC_r 23 (rfl : ro 76 = 23) (by decide))⟩
          refine lv_iload_n E.1 E.2.1 dX10_bait_76 rfl (lv_at hl 0 rfl) ?_
          exact RET G ⟨oo29, kk30⟩ rfl dX10_bait_77
        · skip
          refine lv_iconst (v := (-1)) E.1 E.2.1 dX10_bait_34 (by decide) ?_
          exact RET G ⟨o, KC.rf⟩ rfl dX10_bait_35
set_option maxHeartbeats 4000000 in
set_option maxRecDepth 100000 in
theorem k_calm (l : Launch) (D : va_G) (K : Nat → ClassId) (ad : Nat → Nat) (z : TS) (o : Ok z) (x1 : Int32) (x2 : Int32) : cI l yX10_calm cX10_calm 4 .int ({ frames := 3, cells := 0, slots := 0, locals := 68 }) D K ad z [.ref (ad 0), .int x1, .int x2] (fun r u => Ok u ∧ KC z u) := by
  refine t_enterI (by decide) (Nat.le_of_ble_eq_true rfl) rfl rfl ?_
  intro p e s m args below meth c A R Q H locs ls E hfr hlo RET G hl
  have E : mE p s m meth c cX10_calm args 4 RX10 D K A := E
  have hl : lv_has ls 4 [(0, .ref (ad 0)), (1, .int x1), (2, .int x2)] := hl
  refine lv_aload_n E.1 E.2.1 dX10_calm_0 rfl (lv_at hl 0 rfl) ?_
  refine lv_iload_n E.1 E.2.1 dX10_calm_1 rfl (lv_at hl 1 rfl) ?_
  refine t_vi E G hl (h_walker l D K ad z o x1) 10 (rfl : ro 0 = 10) (by decide) rfl rfl 1 rfl mw_code_X10_hasWalker mw_ini_10 mw_ml_10_168 mw_inst_X10_hasWalker mw_sel_X10_hasWalker hd_X10_hasWalker ⟨Nat.le_trans (by decide) hfr, Nat.le_trans (by decide) hlo⟩ rfl rfl rfl (Nat.le_of_ble_eq_true rfl) dX10_calm_2 (fun r2 zz1 H locs hp3 G => ?_)
  obtain ⟨hz6, b4, h5⟩ := hp3
  rw [hz6] at G
  refine lv_if_eq (tgt := 34) E.1 E.2.1 dX10_calm_5 (by decide) (fun c7 => ?_) (fun c7 => ?_)
  · skip
    have b8 : iv 0 0 r2 := iv_eq c7 (iv_lit (lo := 0) (hi := 0) 0 (by decide) (by decide))
    refine lv_iconst (v := (-1)) E.1 E.2.1 dX10_calm_34 (by decide) ?_
    exact RET G ⟨o, KC.rf⟩ rfl dX10_calm_35
  · skip
    have b9 : iv 1 1 r2 := ne_lo c7 b4 (by decide) (by decide)
    have b10 : iv 0 4 x1 := h5 c7
    refine lv_iload_n E.1 E.2.1 dX10_calm_8 rfl (lv_at hl 2 rfl) ?_
    refine lv_if_lt (tgt := 34) E.1 E.2.1 dX10_calm_9 (by decide) (fun c11 => ?_) (fun c11 => ?_)
    · skip
      have b12 : iv (-2147483648) (-1) x2 := lt_l c11 (iv_full x2) (iv_lit (lo := 0) (hi := 0) 0 (by decide) (by decide)) (by decide)
      refine lv_iconst (v := (-1)) E.1 E.2.1 dX10_calm_34 (by decide) ?_
      exact RET G ⟨o, KC.rf⟩ rfl dX10_calm_35
    · skip
      have b13 : iv 0 2147483647 x2 := le_r (Int32.not_lt.mp c11) (iv_lit (lo := 0) (hi := 0) 0 (by decide) (by decide)) (iv_full x2) (by decide)
      refine lv_iload_n E.1 E.2.1 dX10_calm_12 rfl (lv_at hl 2 rfl) ?_
      refine lv_bipush (v := 9) E.1 E.2.1 dX10_calm_13 (by decide) ?_
      refine lv_icmp_gt (tgt := 34) E.1 E.2.1 dX10_calm_15 (by decide) (fun c14 => ?_) (fun c14 => ?_)
      · skip
        have b15 : iv 10 2147483647 x2 := lt_r c14 (iv_lit (lo := 9) (hi := 9) 9 (by decide) (by decide)) b13 (by decide)
        refine lv_iconst (v := (-1)) E.1 E.2.1 dX10_calm_34 (by decide) ?_
        exact RET G ⟨o, KC.rf⟩ rfl dX10_calm_35
      · skip
        have b16 : iv 0 9 x2 := le_l (Int32.not_lt.mp c14) b13 (iv_lit (lo := 9) (hi := 9) 9 (by decide) (by decide)) (by decide)
        refine lv_aload_n E.1 E.2.1 dX10_calm_18 rfl (lv_at hl 0 rfl) ?_
        refine t_get E G 10 7 (rfl : ro 0 = 10) (C := RX10) (T := TX10) (N := 17) rfl (by decide) (by decide) (by decide) mw_fl_10_55 (v := .ref (ad 56)) (fvl_o (n := 56) rfl) dX10_calm_19 ?_
        refine t_get E G 2 1 (rfl : ro 56 = 2) (C := RX2) (T := TX2) (N := 5) rfl (by decide) (by decide) (by decide) mw_fl_10_121 (v := .ref (ad 70)) (fvl_o (n := 14) rfl) dX10_calm_22 ?_
        refine t_get E G 6 2 (rfl : ro 70 = 6) (C := RX6) (T := TX6) (N := 8) rfl (by decide) (by decide) (by decide) mw_fl_10_180 (v := .ref (ad 73)) (fvl_o (n := 3) rfl) dX10_calm_25 ?_
        refine lv_iload_n E.1 E.2.1 dX10_calm_28 rfl (lv_at hl 1 rfl) ?_
        refine t_iald E G 22 (rfl : ro 73 = 22) (by decide) (by decide) rfl (n := 5) rfl (iv_vp b10 (by decide) (by decide)) dX10_calm_29 ?_
        refine lv_topi (fun v17 e18 => ?_)
        refine lv_iload_n E.1 E.2.1 dX10_calm_30 rfl (lv_at hl 2 rfl) ?_
        refine lv_icmp_ne (tgt := 36) E.1 E.2.1 dX10_calm_31 (by decide) (fun c19 => ?_) (fun c19 => ?_)
        · skip
          refine lv_aload_n E.1 E.2.1 dX10_calm_36 rfl (lv_at hl 0 rfl) ?_
          refine t_get E G 10 10 (rfl : ro 0 = 10) (C := RX10) (T := TX10) (N := 17) rfl (by decide) (by decide) (by decide) mw_fl_10_69 (v := .ref (ad 182)) (fvl_o (n := 182) rfl) dX10_calm_37 ?_
          refine lv_aload_n E.1 E.2.1 dX10_calm_40 rfl (lv_at hl 0 rfl) ?_
          refine t_get E G 10 7 (rfl : ro 0 = 10) (C := RX10) (T := TX10) (N := 17) rfl (by decide) (by decide) (by decide) mw_fl_10_55 (v := .ref (ad 56)) (fvl_o (n := 56) rfl) dX10_calm_41 ?_
          refine t_get E G 2 1 (rfl : ro 56 = 2) (C := RX2) (T := TX2) (N := 5) rfl (by decide) (by decide) (by decide) mw_fl_10_121 (v := .ref (ad 70)) (fvl_o (n := 14) rfl) dX10_calm_44 ?_
          refine t_vv E G hl (a_keep l D K ad z o 70 (by decide : at_ 6 70 = true)) 0 (rfl : ro 182 = 0) (by decide) rfl rfl 1 rfl mw_code_X0_keep mw_ini_0 mw_ml_10_223 mw_inst_X0_keep mw_sel_X0_keep hd_X0_keep ⟨Nat.le_trans (by decide) hfr, Nat.le_trans (by decide) hlo⟩ rfl rfl rfl (Nat.le_of_ble_eq_true rfl) dX10_calm_47 (fun zz20 H locs hp22 G => ?_)
          obtain ⟨oo23, kk24⟩ := hp22
          have kk25 : KC z zz20 := KC.tr KC.rf kk24
          refine lv_aload_n E.1 E.2.1 dX10_calm_50 rfl (lv_at hl 0 rfl) ?_
          refine t_get E G 10 7 (rfl : ro 0 = 10) (C := RX10) (T := TX10) (N := 17) rfl (by decide) (by decide) (by decide) mw_fl_10_55 (v := .ref (ad 56)) (fvl_o (n := 56) rfl) dX10_calm_51 ?_
          refine t_get E G 2 1 (rfl : ro 56 = 2) (C := RX2) (T := TX2) (N := 5) rfl (by decide) (by decide) (by decide) mw_fl_10_121 (v := .ref (ad 70)) (fvl_o (n := 14) rfl) dX10_calm_54 ?_
          refine t_get E G 6 2 (rfl : ro 70 = 6) (C := RX6) (T := TX6) (N := 8) rfl (by decide) (by decide) (by decide) mw_fl_10_180 (v := .ref (ad 73)) (fvl_o (n := 3) rfl) dX10_calm_57 ?_
          refine lv_iload_n E.1 E.2.1 dX10_calm_60 rfl (lv_at hl 1 rfl) ?_
          refine t_iald E G 22 (rfl : ro 73 = 22) (by decide) (by decide) rfl (n := 5) rfl (iv_vp b10 (by decide) (by decide)) dX10_calm_61 ?_
          refine lv_topi (fun v26 e27 => ?_)
          refine lv_istore_n (lv' := [(3, .int v26), (0, .ref (ad 0)), (1, .int x1), (2, .int x2)]) E.1 E.2.1 dX10_calm_62 rfl hl (by decide) rfl (fun ls hl => ?_)
          refine lv_aload_n E.1 E.2.1 dX10_calm_63 rfl (lv_at hl 1 rfl) ?_
          refine t_get E G 10 7 (rfl : ro 0 = 10) (C := RX10) (T := TX10) (N := 17) rfl (by decide) (by decide) (by decide) mw_fl_10_55 (v := .ref (ad 56)) (fvl_o (n := 56) rfl) dX10_calm_64 ?_
          refine t_get E G 2 1 (rfl : ro 56 = 2) (C := RX2) (T := TX2) (N := 5) rfl (by decide) (by decide) (by decide) mw_fl_10_121 (v := .ref (ad 70)) (fvl_o (n := 14) rfl) dX10_calm_67 ?_
          refine t_get E G 6 2 (rfl : ro 70 = 6) (C := RX6) (T := TX6) (N := 8) rfl (by decide) (by decide) (by decide) mw_fl_10_180 (v := .ref (ad 73)) (fvl_o (n := 3) rfl) dX10_calm_70 ?_
          refine lv_iload_n E.1 E.2.1 dX10_calm_73 rfl (lv_at hl 2 rfl) ?_
          refine lv_iload_n E.1 E.2.1 dX10_calm_74 rfl (lv_at hl 3 rfl) ?_
          refine t_iast E G 22 (rfl : ro 73 = 22) (by decide) (by decide) rfl (n := 5) rfl (iv_vp b10 (by decide) (by decide)) dX10_calm_75 (fun H locs G => ?_)
          obtain ⟨zz28, G, oo29, kk30⟩ : ∃ u : TS, mG D A s H locs (wd K ad u) ∧ Ok u ∧ KC z u := ⟨_, G, ok_uc oo23 22 (rfl : ro 73 = 22) (by decide) (iv_mono b16 (by decide) (by decide)) (by decide), KC.tr kk25 (KC_r 22 (rfl : ro 73 = 22) (by decide))⟩
          refine lv_iload_n E.1 E.2.1 dX10_calm_76 rfl (lv_at hl 0 rfl) ?_
          exact RET G ⟨oo29, kk30⟩ rfl dX10_calm_77
        · skip
          refine lv_iconst (v := (-1)) E.1 E.2.1 dX10_calm_34 (by decide) ?_
          exact RET G ⟨o, KC.rf⟩ rfl dX10_calm_35
set_option maxHeartbeats 4000000 in
set_option maxRecDepth 100000 in
theorem k_undo (l : Launch) (D : va_G) (K : Nat → ClassId) (ad : Nat → Nat) (z : TS) (o : Ok z) : cI l yX10_undo cX10_undo 1 .int ({ frames := 3, cells := 0, slots := 0, locals := 68 }) D K ad z [.ref (ad 0)] (fun r u => Ok u ∧ KC z u) := by
  refine t_enterI (by decide) (Nat.le_of_ble_eq_true rfl) rfl rfl ?_
  intro p e s m args below meth c A R Q H locs ls E hfr hlo RET G hl
  have E : mE p s m meth c cX10_undo args 1 RX10 D K A := E
  have hl : lv_has ls 1 [(0, .ref (ad 0))] := hl
  refine lv_aload_n E.1 E.2.1 dX10_undo_0 rfl (lv_at hl 0 rfl) ?_
  refine t_get E G 10 10 (rfl : ro 0 = 10) (C := RX10) (T := TX10) (N := 17) rfl (by decide) (by decide) (by decide) mw_fl_10_69 (v := .ref (ad 182)) (fvl_o (n := 182) rfl) dX10_undo_1 ?_
  refine t_get E G 0 0 (rfl : ro 182 = 0) (C := RX0) (T := TX0) (N := 3) rfl (by decide) (by decide) (by decide) mw_fl_10_215 (fvl_i rfl) dX10_undo_4 ?_
  refine lv_topi (fun v1 e2 => ?_)
  refine lv_if_ne (tgt := 12) E.1 E.2.1 dX10_undo_7 (by decide) (fun c3 => ?_) (fun c3 => ?_)
  · skip
    refine lv_aload_n E.1 E.2.1 dX10_undo_12 rfl (lv_at hl 0 rfl) ?_
    refine t_get E G 10 10 (rfl : ro 0 = 10) (C := RX10) (T := TX10) (N := 17) rfl (by decide) (by decide) (by decide) mw_fl_10_69 (v := .ref (ad 182)) (fvl_o (n := 182) rfl) dX10_undo_13 ?_
    refine lv_aload_n E.1 E.2.1 dX10_undo_16 rfl (lv_at hl 0 rfl) ?_
    refine t_get E G 10 7 (rfl : ro 0 = 10) (C := RX10) (T := TX10) (N := 17) rfl (by decide) (by decide) (by decide) mw_fl_10_55 (v := .ref (ad 56)) (fvl_o (n := 56) rfl) dX10_undo_17 ?_
    refine t_get E G 2 1 (rfl : ro 56 = 2) (C := RX2) (T := TX2) (N := 5) rfl (by decide) (by decide) (by decide) mw_fl_10_121 (v := .ref (ad 70)) (fvl_o (n := 14) rfl) dX10_undo_20 ?_
    refine t_vv E G hl (a_back l D K ad z o 70 (by decide : at_ 6 70 = true)) 0 (rfl : ro 182 = 0) (by decide) rfl rfl 1 rfl mw_code_X0_takeBack mw_ini_0 mw_ml_10_239 mw_inst_X0_takeBack mw_sel_X0_takeBack hd_X0_takeBack ⟨Nat.le_trans (by decide) hfr, Nat.le_trans (by decide) hlo⟩ rfl rfl rfl (Nat.le_of_ble_eq_true rfl) dX10_undo_23 (fun zz4 H locs hp6 G => ?_)
    obtain ⟨oo7, kk8⟩ := hp6
    have kk9 : KC z zz4 := KC.tr KC.rf kk8
    refine lv_aload_n E.1 E.2.1 dX10_undo_26 rfl (lv_at hl 0 rfl) ?_
    refine t_get E G 10 10 (rfl : ro 0 = 10) (C := RX10) (T := TX10) (N := 17) rfl (by decide) (by decide) (by decide) mw_fl_10_69 (v := .ref (ad 182)) (fvl_o (n := 182) rfl) dX10_undo_27 ?_
    refine t_get E G 0 0 (rfl : ro 182 = 0) (C := RX0) (T := TX0) (N := 3) rfl (by decide) (by decide) (by decide) mw_fl_10_215 (fvl_i rfl) dX10_undo_30 ?_
    refine lv_topi (fun v10 e11 => ?_)
    exact RET G ⟨oo7, kk9⟩ rfl dX10_undo_33
  · skip
    have b12 : iv 0 0 v1 := iv_eq c3 (iv_lit (lo := 0) (hi := 0) 0 (by decide) (by decide))
    refine lv_iconst (v := (-1)) E.1 E.2.1 dX10_undo_10 (by decide) ?_
    exact RET G ⟨o, KC.rf⟩ rfl dX10_undo_11
set_option maxHeartbeats 4000000 in
set_option maxRecDepth 100000 in
theorem k_end (l : Launch) (D : va_G) (K : Nat → ClassId) (ad : Nat → Nat) (z : TS) (o : Ok z) (x1 : Int32) : cI l yX10_end cX10_end 2 .int ({ frames := 0, cells := 0, slots := 0, locals := 0 }) D K ad z [.ref (ad 0), .int x1] (fun r u => Ok u ∧ KC z u) := by
  refine t_enterI (by decide) (Nat.le_of_ble_eq_true rfl) rfl rfl ?_
  intro p e s m args below meth c A R Q H locs ls E hfr hlo RET G hl
  have E : mE p s m meth c cX10_end args 2 RX10 D K A := E
  have hl : lv_has ls 2 [(0, .ref (ad 0)), (1, .int x1)] := hl
  refine lv_iload_n E.1 E.2.1 dX10_end_0 rfl (lv_at hl 1 rfl) ?_
  refine lv_if_lt (tgt := 15) E.1 E.2.1 dX10_end_1 (by decide) (fun c1 => ?_) (fun c1 => ?_)
  · skip
    have b2 : iv (-2147483648) (-1) x1 := lt_l c1 (iv_full x1) (iv_lit (lo := 0) (hi := 0) 0 (by decide) (by decide)) (by decide)
    refine lv_iconst (v := (-1)) E.1 E.2.1 dX10_end_15 (by decide) ?_
    exact RET G ⟨o, KC.rf⟩ rfl dX10_end_16
  · skip
    have b3 : iv 0 2147483647 x1 := le_r (Int32.not_lt.mp c1) (iv_lit (lo := 0) (hi := 0) 0 (by decide) (by decide)) (iv_full x1) (by decide)
    refine lv_iload_n E.1 E.2.1 dX10_end_4 rfl (lv_at hl 1 rfl) ?_
    refine lv_aload_n E.1 E.2.1 dX10_end_5 rfl (lv_at hl 0 rfl) ?_
    refine t_get E G 10 0 (rfl : ro 0 = 10) (C := RX10) (T := TX10) (N := 17) rfl (by decide) (by decide) (by decide) mw_fl_10_10 (v := .ref (ad 1)) (fvl_o (n := 1) rfl) dX10_end_6 ?_
    refine t_get E G 7 1 (rfl : ro 1 = 7) (C := RX7) (T := TX7) (N := 7) rfl (by decide) (by decide) (by decide) mw_fl_10_100 (fvl_i rfl) dX10_end_9 ?_
    refine lv_topi (fun v4 e5 => ?_)
    have b6 : iv 0 400 v4 := by rw [e5]; exact o.i 7 1 (rfl : ro 1 = 7)
    refine lv_icmp_le (tgt := 17) E.1 E.2.1 dX10_end_12 (by decide) (fun c7 => ?_) (fun c7 => ?_)
    · skip
      have b8 : iv 0 400 x1 := le_l c7 b3 b6 (by decide)
      refine lv_aload_n E.1 E.2.1 dX10_end_17 rfl (lv_at hl 0 rfl) ?_
      refine t_get E G 10 0 (rfl : ro 0 = 10) (C := RX10) (T := TX10) (N := 17) rfl (by decide) (by decide) (by decide) mw_fl_10_10 (v := .ref (ad 1)) (fvl_o (n := 1) rfl) dX10_end_18 ?_
      refine lv_iload_n E.1 E.2.1 dX10_end_21 rfl (lv_at hl 1 rfl) ?_
      refine t_puti E G 7 1 (rfl : ro 1 = 7) (C := RX7) (T := TX7) (N := 7) rfl (by decide) (by decide) (by decide) rfl rfl mw_fl_10_100 rfl dX10_end_22 (fun H locs G => ?_)
      obtain ⟨zz9, G, oo10, kk11, h12⟩ : ∃ u : TS, mG D A s H locs (wd K ad u) ∧ Ok u ∧ KC z u ∧ tI u 1 1 = x1 := ⟨_, G, ok_i o 7 (rfl : ro 1 = 7) (iv_mono b8 (by decide) (by decide)) (by decide), KC.tr KC.rf (KC_i 7 (rfl : ro 1 = 7) (by decide)), sI_self⟩
      refine lv_iload_n E.1 E.2.1 dX10_end_25 rfl (lv_at hl 1 rfl) ?_
      exact RET G ⟨oo10, kk11⟩ rfl dX10_end_26
    · skip
      have b13 : iv 1 2147483647 x1 := lt_r (Int32.not_le.mp c7) b6 b3 (by decide)
      refine lv_iconst (v := (-1)) E.1 E.2.1 dX10_end_15 (by decide) ?_
      exact RET G ⟨o, KC.rf⟩ rfl dX10_end_16
