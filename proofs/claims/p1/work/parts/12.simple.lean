theorem mw_code_X10_hasCorner : (Cond.code yX10_hasCorner cX10_hasCorner 2 (some .boolean) : Cond) ∈ cw := cw_of (List.mem_append_right _ (List.mem_append_right _ (List.mem_append_right _ (List.mem_append_right _ (List.mem_append_left _ (List.mem_of_getElem? (i := 38) rfl)))))) (by decide +kernel)
theorem mw_code_X10_hasSetLure : (Cond.code yX10_hasSetLure cX10_hasSetLure 2 (some .boolean) : Cond) ∈ cw := cw_of (List.mem_append_right _ (List.mem_append_right _ (List.mem_append_right _ (List.mem_append_right _ (List.mem_append_left _ (List.mem_of_getElem? (i := 145) rfl)))))) (by decide +kernel)
theorem mw_code_X10_hasTown : (Cond.code yX10_hasTown cX10_hasTown 1 (some .boolean) : Cond) ∈ cw := cw_of (List.mem_append_right _ (List.mem_append_right _ (List.mem_append_right _ (List.mem_append_right _ (List.mem_append_left _ (List.mem_of_getElem? (i := 58) rfl)))))) (by decide +kernel)
theorem mw_code_X10_hasWalker : (Cond.code yX10_hasWalker cX10_hasWalker 2 (some .boolean) : Cond) ∈ cw := cw_of (List.mem_append_right _ (List.mem_append_right _ (List.mem_append_right _ (List.mem_append_right _ (List.mem_append_left _ (List.mem_of_getElem? (i := 30) rfl)))))) (by decide +kernel)
theorem mw_fl_10_10 : (Cond.fieldLink RX10 10 "LureTown" "tape" "LLureTown$Tape;" : Cond) ∈ cw := cw_of (List.mem_append_right _ (List.mem_append_right _ (List.mem_append_left _ (List.mem_of_getElem? (i := 128) (by decide +kernel))))) (by decide +kernel)
theorem mw_fl_10_100 : (Cond.fieldLink RX10 100 "LureTown$Tape" "size" "I" : Cond) ∈ cw := cw_of (List.mem_append_right _ (List.mem_append_left _ (List.mem_of_getElem? (i := 37) (by decide +kernel)))) (by decide +kernel)
theorem mw_fl_10_130 : (Cond.fieldLink RX10 130 "LureTown$Moment" "notes" "LLureTown$Notes;" : Cond) ∈ cw := cw_of (List.mem_append_right _ (List.mem_append_right _ (List.mem_append_left _ (List.mem_of_getElem? (i := 56) (by decide +kernel))))) (by decide +kernel)
theorem mw_fl_10_134 : (Cond.fieldLink RX10 134 "LureTown$Notes" "size" "I" : Cond) ∈ cw := cw_of (List.mem_append_right _ (List.mem_append_right _ (List.mem_append_left _ (List.mem_of_getElem? (i := 38) (by decide +kernel))))) (by decide +kernel)
theorem mw_fl_10_146 : (Cond.fieldLink RX10 146 "LureTown$Moment" "inForce" "I" : Cond) ∈ cw := cw_of (List.mem_append_right _ (List.mem_append_right _ (List.mem_append_left _ (List.mem_of_getElem? (i := 58) (by decide +kernel))))) (by decide +kernel)
theorem mw_fl_10_215 : (Cond.fieldLink RX10 215 "LureTown$Acts" "size" "I" : Cond) ∈ cw := cw_of (List.mem_append_right _ (List.mem_append_right _ (List.mem_append_left _ (List.mem_of_getElem? (i := 83) (by decide +kernel))))) (by decide +kernel)
theorem mw_fl_10_216 : (Cond.fieldLink RX10 216 "LureTown$Moment" "x" "I" : Cond) ∈ cw := cw_of (List.mem_append_right _ (List.mem_append_right _ (List.mem_append_left _ (List.mem_of_getElem? (i := 60) (by decide +kernel))))) (by decide +kernel)
theorem mw_fl_10_43 : (Cond.fieldLink RX10 43 "LureTown" "ruleCount" "I" : Cond) ∈ cw := cw_of (List.mem_append_right _ (List.mem_append_right _ (List.mem_append_left _ (List.mem_of_getElem? (i := 133) (by decide +kernel))))) (by decide +kernel)
theorem mw_fl_10_63 : (Cond.fieldLink RX10 63 "LureTown" "imagesMade" "I" : Cond) ∈ cw := cw_of (List.mem_append_right _ (List.mem_append_right _ (List.mem_append_left _ (List.mem_of_getElem? (i := 137) (by decide +kernel))))) (by decide +kernel)
theorem mw_fl_10_69 : (Cond.fieldLink RX10 69 "LureTown" "acts" "LLureTown$Acts;" : Cond) ∈ cw := cw_of (List.mem_append_right _ (List.mem_append_right _ (List.mem_append_left _ (List.mem_of_getElem? (i := 138) (by decide +kernel))))) (by decide +kernel)
theorem mw_inst_X10_hasCorner : (Cond.instanceMethod yX10_hasCorner : Cond) ∈ cw := cw_of (List.mem_append_right _ (List.mem_append_right _ (List.mem_append_right _ (List.mem_append_right _ (List.mem_append_left _ (List.mem_of_getElem? (i := 37) (by decide +kernel))))))) (by decide +kernel)
theorem mw_inst_X10_hasSetLure : (Cond.instanceMethod yX10_hasSetLure : Cond) ∈ cw := cw_of (List.mem_append_right _ (List.mem_append_right _ (List.mem_append_right _ (List.mem_append_right _ (List.mem_append_left _ (List.mem_of_getElem? (i := 144) (by decide +kernel))))))) (by decide +kernel)
theorem mw_inst_X10_hasTown : (Cond.instanceMethod yX10_hasTown : Cond) ∈ cw := cw_of (List.mem_append_right _ (List.mem_append_right _ (List.mem_append_right _ (List.mem_append_right _ (List.mem_append_left _ (List.mem_of_getElem? (i := 57) (by decide +kernel))))))) (by decide +kernel)
theorem mw_inst_X10_hasWalker : (Cond.instanceMethod yX10_hasWalker : Cond) ∈ cw := cw_of (List.mem_append_right _ (List.mem_append_right _ (List.mem_append_right _ (List.mem_append_right _ (List.mem_append_left _ (List.mem_of_getElem? (i := 29) (by decide +kernel))))))) (by decide +kernel)
theorem mw_ml_10_168 : (Cond.methodLink RX10 168 yX10_hasWalker : Cond) ∈ cw := cw_of (List.mem_append_right _ (List.mem_append_right _ (List.mem_append_right _ (List.mem_append_right _ (List.mem_append_left _ (List.mem_of_getElem? (i := 27) (by decide +kernel))))))) (by decide +kernel)
theorem mw_ml_10_186 : (Cond.methodLink RX10 186 yX10_hasCorner : Cond) ∈ cw := cw_of (List.mem_append_right _ (List.mem_append_right _ (List.mem_append_right _ (List.mem_append_right _ (List.mem_append_left _ (List.mem_of_getElem? (i := 35) (by decide +kernel))))))) (by decide +kernel)
theorem mw_ml_10_219 : (Cond.methodLink RX10 219 yX10_hasTown : Cond) ∈ cw := cw_of (List.mem_append_right _ (List.mem_append_right _ (List.mem_append_right _ (List.mem_append_right _ (List.mem_append_left _ (List.mem_of_getElem? (i := 55) (by decide +kernel))))))) (by decide +kernel)
theorem mw_ml_10_236 : (Cond.methodLink RX10 236 yX10_hasSetLure : Cond) ∈ cw := cw_of (List.mem_append_right _ (List.mem_append_right _ (List.mem_append_right _ (List.mem_append_right _ (List.mem_append_left _ (List.mem_of_getElem? (i := 142) (by decide +kernel))))))) (by decide +kernel)
theorem mw_sel_X10_hasCorner : (Cond.selects RX10 yX10_hasCorner yX10_hasCorner : Cond) ∈ cw := cw_of (List.mem_append_left _ (List.mem_of_getElem? (i := 24) (by decide +kernel))) (by decide +kernel)
theorem mw_sel_X10_hasSetLure : (Cond.selects RX10 yX10_hasSetLure yX10_hasSetLure : Cond) ∈ cw := cw_of (List.mem_append_left _ (List.mem_of_getElem? (i := 36) (by decide +kernel))) (by decide +kernel)
theorem mw_sel_X10_hasTown : (Cond.selects RX10 yX10_hasTown yX10_hasTown : Cond) ∈ cw := cw_of (List.mem_append_left _ (List.mem_of_getElem? (i := 26) (by decide +kernel))) (by decide +kernel)
theorem mw_sel_X10_hasWalker : (Cond.selects RX10 yX10_hasWalker yX10_hasWalker : Cond) ∈ cw := cw_of (List.mem_append_left _ (List.mem_of_getElem? (i := 23) (by decide +kernel))) (by decide +kernel)
theorem dX10_ahead_0 : decode cX10_ahead 0 = .ok (.aload_n 0, 1) := by decide +kernel
theorem dX10_ahead_1 : decode cX10_ahead 1 = .ok (.invokevirtual 219, 3) := by decide +kernel
theorem dX10_ahead_4 : decode cX10_ahead 4 = .ok (.ifCond .eq 22, 3) := by decide +kernel
theorem dX10_ahead_26 : decode cX10_ahead 26 = .ok (.iconst (-1), 1) := by decide +kernel
theorem dX10_ahead_27 : decode cX10_ahead 27 = .ok (.ireturn, 1) := by decide +kernel
theorem dX10_back_0 : decode cX10_back 0 = .ok (.iload_n 1, 1) := by decide +kernel
theorem dX10_back_1 : decode cX10_back 1 = .ok (.ifCond .lt 19, 3) := by decide +kernel
theorem dX10_back_4 : decode cX10_back 4 = .ok (.iload_n 1, 1) := by decide +kernel
theorem dX10_back_5 : decode cX10_back 5 = .ok (.iconst 4, 1) := by decide +kernel
theorem dX10_back_6 : decode cX10_back 6 = .ok (.if_icmp .ge 14, 3) := by decide +kernel
theorem dX10_back_9 : decode cX10_back 9 = .ok (.aload_n 0, 1) := by decide +kernel
theorem dX10_back_10 : decode cX10_back 10 = .ok (.getfield 63, 3) := by decide +kernel
theorem dX10_back_13 : decode cX10_back 13 = .ok (.iload_n 1, 1) := by decide +kernel
theorem dX10_back_14 : decode cX10_back 14 = .ok (.ishr, 1) := by decide +kernel
theorem dX10_back_15 : decode cX10_back 15 = .ok (.iconst 1, 1) := by decide +kernel
theorem dX10_back_16 : decode cX10_back 16 = .ok (.iand, 1) := by decide +kernel
theorem dX10_back_17 : decode cX10_back 17 = .ok (.ifCond .ne 5, 3) := by decide +kernel
theorem dX10_back_20 : decode cX10_back 20 = .ok (.iconst (-1), 1) := by decide +kernel
theorem dX10_back_21 : decode cX10_back 21 = .ok (.ireturn, 1) := by decide +kernel
theorem dX10_bait_0 : decode cX10_bait 0 = .ok (.aload_n 0, 1) := by decide +kernel
theorem dX10_bait_1 : decode cX10_bait 1 = .ok (.iload_n 1, 1) := by decide +kernel
theorem dX10_bait_2 : decode cX10_bait 2 = .ok (.invokevirtual 149, 3) := by decide +kernel
theorem dX10_bait_5 : decode cX10_bait 5 = .ok (.ifCond .eq 29, 3) := by decide +kernel
theorem dX10_bait_34 : decode cX10_bait 34 = .ok (.iconst (-1), 1) := by decide +kernel
theorem dX10_bait_35 : decode cX10_bait 35 = .ok (.ireturn, 1) := by decide +kernel
theorem dX10_best_0 : decode cX10_best 0 = .ok (.aload_n 0, 1) := by decide +kernel
theorem dX10_best_1 : decode cX10_best 1 = .ok (.iload_n 1, 1) := by decide +kernel
theorem dX10_best_2 : decode cX10_best 2 = .ok (.invokevirtual 236, 3) := by decide +kernel
theorem dX10_best_5 : decode cX10_best 5 = .ok (.ifCond .eq 23, 3) := by decide +kernel
theorem dX10_best_28 : decode cX10_best 28 = .ok (.iconst (-1), 1) := by decide +kernel
theorem dX10_best_29 : decode cX10_best 29 = .ok (.ireturn, 1) := by decide +kernel
theorem dX10_calm_0 : decode cX10_calm 0 = .ok (.aload_n 0, 1) := by decide +kernel
theorem dX10_calm_1 : decode cX10_calm 1 = .ok (.iload_n 1, 1) := by decide +kernel
theorem dX10_calm_2 : decode cX10_calm 2 = .ok (.invokevirtual 168, 3) := by decide +kernel
theorem dX10_calm_5 : decode cX10_calm 5 = .ok (.ifCond .eq 29, 3) := by decide +kernel
theorem dX10_calm_34 : decode cX10_calm 34 = .ok (.iconst (-1), 1) := by decide +kernel
theorem dX10_calm_35 : decode cX10_calm 35 = .ok (.ireturn, 1) := by decide +kernel
theorem dX10_cover_0 : decode cX10_cover 0 = .ok (.aload_n 0, 1) := by decide +kernel
theorem dX10_cover_1 : decode cX10_cover 1 = .ok (.invokevirtual 219, 3) := by decide +kernel
theorem dX10_cover_4 : decode cX10_cover 4 = .ok (.ifCond .eq 12, 3) := by decide +kernel
theorem dX10_cover_16 : decode cX10_cover 16 = .ok (.iconst (-1), 1) := by decide +kernel
theorem dX10_cover_17 : decode cX10_cover 17 = .ok (.ireturn, 1) := by decide +kernel
theorem dX10_end_0 : decode cX10_end 0 = .ok (.iload_n 1, 1) := by decide +kernel
theorem dX10_end_1 : decode cX10_end 1 = .ok (.ifCond .lt 14, 3) := by decide +kernel
theorem dX10_end_4 : decode cX10_end 4 = .ok (.iload_n 1, 1) := by decide +kernel
theorem dX10_end_5 : decode cX10_end 5 = .ok (.aload_n 0, 1) := by decide +kernel
theorem dX10_end_6 : decode cX10_end 6 = .ok (.getfield 10, 3) := by decide +kernel
theorem dX10_end_9 : decode cX10_end 9 = .ok (.getfield 100, 3) := by decide +kernel
theorem dX10_end_12 : decode cX10_end 12 = .ok (.if_icmp .le 5, 3) := by decide +kernel
theorem dX10_end_15 : decode cX10_end 15 = .ok (.iconst (-1), 1) := by decide +kernel
theorem dX10_end_16 : decode cX10_end 16 = .ok (.ireturn, 1) := by decide +kernel
theorem dX10_end_17 : decode cX10_end 17 = .ok (.aload_n 0, 1) := by decide +kernel
theorem dX10_end_18 : decode cX10_end 18 = .ok (.getfield 10, 3) := by decide +kernel
theorem dX10_end_21 : decode cX10_end 21 = .ok (.iload_n 1, 1) := by decide +kernel
theorem dX10_end_22 : decode cX10_end 22 = .ok (.putfield 100, 3) := by decide +kernel
theorem dX10_end_25 : decode cX10_end 25 = .ok (.iload_n 1, 1) := by decide +kernel
theorem dX10_end_26 : decode cX10_end 26 = .ok (.ireturn, 1) := by decide +kernel
theorem dX10_far_0 : decode cX10_far 0 = .ok (.aload_n 0, 1) := by decide +kernel
theorem dX10_far_1 : decode cX10_far 1 = .ok (.iload_n 1, 1) := by decide +kernel
theorem dX10_far_2 : decode cX10_far 2 = .ok (.invokevirtual 168, 3) := by decide +kernel
theorem dX10_far_5 : decode cX10_far 5 = .ok (.ifCond .ne 5, 3) := by decide +kernel
theorem dX10_far_8 : decode cX10_far 8 = .ok (.iconst (-1), 1) := by decide +kernel
theorem dX10_far_9 : decode cX10_far 9 = .ok (.ireturn, 1) := by decide +kernel
theorem dX10_first_0 : decode cX10_first 0 = .ok (.aload_n 0, 1) := by decide +kernel
theorem dX10_first_1 : decode cX10_first 1 = .ok (.invokevirtual 219, 3) := by decide +kernel
theorem dX10_first_4 : decode cX10_first 4 = .ok (.ifCond .eq 12, 3) := by decide +kernel
theorem dX10_first_16 : decode cX10_first 16 = .ok (.iconst (-1), 1) := by decide +kernel
theorem dX10_first_17 : decode cX10_first 17 = .ok (.ireturn, 1) := by decide +kernel
theorem dX10_force_0 : decode cX10_force 0 = .ok (.iload_n 1, 1) := by decide +kernel
theorem dX10_force_1 : decode cX10_force 1 = .ok (.iconst (-1), 1) := by decide +kernel
theorem dX10_force_2 : decode cX10_force 2 = .ok (.if_icmp .lt 11, 3) := by decide +kernel
theorem dX10_force_5 : decode cX10_force 5 = .ok (.iload_n 1, 1) := by decide +kernel
theorem dX10_force_6 : decode cX10_force 6 = .ok (.aload_n 0, 1) := by decide +kernel
theorem dX10_force_7 : decode cX10_force 7 = .ok (.getfield 43, 3) := by decide +kernel
theorem dX10_force_10 : decode cX10_force 10 = .ok (.if_icmp .lt 6, 3) := by decide +kernel
theorem dX10_force_13 : decode cX10_force 13 = .ok (.bipush (-2), 2) := by decide +kernel
theorem dX10_force_15 : decode cX10_force 15 = .ok (.ireturn, 1) := by decide +kernel
theorem dX10_force_16 : decode cX10_force 16 = .ok (.aload_n 0, 1) := by decide +kernel
theorem dX10_force_17 : decode cX10_force 17 = .ok (.getfield 55, 3) := by decide +kernel
theorem dX10_force_20 : decode cX10_force 20 = .ok (.getfield 146, 3) := by decide +kernel
theorem dX10_force_23 : decode cX10_force 23 = .ok (.istore_n 2, 1) := by decide +kernel
theorem dX10_force_24 : decode cX10_force 24 = .ok (.aload_n 0, 1) := by decide +kernel
theorem dX10_force_25 : decode cX10_force 25 = .ok (.getfield 55, 3) := by decide +kernel
theorem dX10_force_28 : decode cX10_force 28 = .ok (.iload_n 1, 1) := by decide +kernel
theorem dX10_force_29 : decode cX10_force 29 = .ok (.putfield 146, 3) := by decide +kernel
theorem dX10_force_32 : decode cX10_force 32 = .ok (.iload_n 2, 1) := by decide +kernel
theorem dX10_force_33 : decode cX10_force 33 = .ok (.ireturn, 1) := by decide +kernel
theorem dX10_had_0 : decode cX10_had 0 = .ok (.aload_n 0, 1) := by decide +kernel
theorem dX10_had_1 : decode cX10_had 1 = .ok (.iload_n 1, 1) := by decide +kernel
theorem dX10_had_2 : decode cX10_had 2 = .ok (.invokevirtual 168, 3) := by decide +kernel
theorem dX10_had_5 : decode cX10_had 5 = .ok (.ifCond .eq 12, 3) := by decide +kernel
theorem dX10_had_17 : decode cX10_had 17 = .ok (.iconst (-1), 1) := by decide +kernel
theorem dX10_had_18 : decode cX10_had 18 = .ok (.ireturn, 1) := by decide +kernel
theorem dX10_hearts_0 : decode cX10_hearts 0 = .ok (.aload_n 0, 1) := by decide +kernel
theorem dX10_hearts_1 : decode cX10_hearts 1 = .ok (.iload_n 1, 1) := by decide +kernel
theorem dX10_hearts_2 : decode cX10_hearts 2 = .ok (.invokevirtual 168, 3) := by decide +kernel
theorem dX10_hearts_5 : decode cX10_hearts 5 = .ok (.ifCond .eq 20, 3) := by decide +kernel
theorem dX10_hearts_25 : decode cX10_hearts 25 = .ok (.iconst (-1), 1) := by decide +kernel
theorem dX10_hearts_26 : decode cX10_hearts 26 = .ok (.ireturn, 1) := by decide +kernel
theorem dX10_kind_0 : decode cX10_kind 0 = .ok (.aload_n 0, 1) := by decide +kernel
theorem dX10_kind_1 : decode cX10_kind 1 = .ok (.iload_n 1, 1) := by decide +kernel
theorem dX10_kind_2 : decode cX10_kind 2 = .ok (.invokevirtual 236, 3) := by decide +kernel
theorem dX10_kind_5 : decode cX10_kind 5 = .ok (.ifCond .eq 23, 3) := by decide +kernel
theorem dX10_kind_28 : decode cX10_kind 28 = .ok (.iconst (-1), 1) := by decide +kernel
theorem dX10_kind_29 : decode cX10_kind 29 = .ok (.ireturn, 1) := by decide +kernel
theorem dX10_look_0 : decode cX10_look 0 = .ok (.aload_n 0, 1) := by decide +kernel
theorem dX10_look_1 : decode cX10_look 1 = .ok (.invokevirtual 219, 3) := by decide +kernel
theorem dX10_look_4 : decode cX10_look 4 = .ok (.ifCond .eq 22, 3) := by decide +kernel
theorem dX10_look_26 : decode cX10_look 26 = .ok (.iconst (-1), 1) := by decide +kernel
theorem dX10_look_27 : decode cX10_look 27 = .ok (.ireturn, 1) := by decide +kernel
theorem dX10_lure_0 : decode cX10_lure 0 = .ok (.aload_n 0, 1) := by decide +kernel
theorem dX10_lure_1 : decode cX10_lure 1 = .ok (.iload_n 1, 1) := by decide +kernel
theorem dX10_lure_2 : decode cX10_lure 2 = .ok (.invokevirtual 149, 3) := by decide +kernel
theorem dX10_lure_5 : decode cX10_lure 5 = .ok (.ifCond .ne 5, 3) := by decide +kernel
theorem dX10_lure_8 : decode cX10_lure 8 = .ok (.iconst (-1), 1) := by decide +kernel
theorem dX10_lure_9 : decode cX10_lure 9 = .ok (.ireturn, 1) := by decide +kernel
theorem dX10_move_0 : decode cX10_move 0 = .ok (.aload_n 0, 1) := by decide +kernel
theorem dX10_move_1 : decode cX10_move 1 = .ok (.iload_n 1, 1) := by decide +kernel
theorem dX10_move_2 : decode cX10_move 2 = .ok (.invokevirtual 236, 3) := by decide +kernel
theorem dX10_move_5 : decode cX10_move 5 = .ok (.ifCond .eq 27, 3) := by decide +kernel
theorem dX10_move_32 : decode cX10_move 32 = .ok (.iconst (-1), 1) := by decide +kernel
theorem dX10_move_33 : decode cX10_move 33 = .ok (.ireturn, 1) := by decide +kernel
theorem dX10_nights_0 : decode cX10_nights 0 = .ok (.aload_n 0, 1) := by decide +kernel
theorem dX10_nights_1 : decode cX10_nights 1 = .ok (.invokevirtual 219, 3) := by decide +kernel
theorem dX10_nights_4 : decode cX10_nights 4 = .ok (.ifCond .eq 25, 3) := by decide +kernel
theorem dX10_nights_29 : decode cX10_nights 29 = .ok (.iconst (-1), 1) := by decide +kernel
theorem dX10_nights_30 : decode cX10_nights 30 = .ok (.ireturn, 1) := by decide +kernel
theorem dX10_note_0 : decode cX10_note 0 = .ok (.iload_n 1, 1) := by decide +kernel
theorem dX10_note_1 : decode cX10_note 1 = .ok (.iconst (-1), 1) := by decide +kernel
theorem dX10_note_2 : decode cX10_note 2 = .ok (.if_icmp .ne 16, 3) := by decide +kernel
theorem dX10_note_5 : decode cX10_note 5 = .ok (.aload_n 0, 1) := by decide +kernel
theorem dX10_note_6 : decode cX10_note 6 = .ok (.getfield 55, 3) := by decide +kernel
theorem dX10_note_9 : decode cX10_note 9 = .ok (.getfield 130, 3) := by decide +kernel
theorem dX10_note_12 : decode cX10_note 12 = .ok (.iconst 0, 1) := by decide +kernel
theorem dX10_note_13 : decode cX10_note 13 = .ok (.putfield 134, 3) := by decide +kernel
theorem dX10_note_16 : decode cX10_note 16 = .ok (.iconst 0, 1) := by decide +kernel
theorem dX10_note_17 : decode cX10_note 17 = .ok (.ireturn, 1) := by decide +kernel
theorem dX10_note_18 : decode cX10_note 18 = .ok (.iload_n 1, 1) := by decide +kernel
theorem dX10_note_19 : decode cX10_note 19 = .ok (.ifCond .lt 25, 3) := by decide +kernel
theorem dX10_note_22 : decode cX10_note 22 = .ok (.iload_n 1, 1) := by decide +kernel
theorem dX10_note_23 : decode cX10_note 23 = .ok (.bipush 60, 2) := by decide +kernel
theorem dX10_note_25 : decode cX10_note 25 = .ok (.if_icmp .gt 19, 3) := by decide +kernel
theorem dX10_note_28 : decode cX10_note 28 = .ok (.aload_n 0, 1) := by decide +kernel
theorem dX10_note_29 : decode cX10_note 29 = .ok (.iload_n 2, 1) := by decide +kernel
theorem dX10_note_30 : decode cX10_note 30 = .ok (.invokevirtual 168, 3) := by decide +kernel
theorem dX10_note_33 : decode cX10_note 33 = .ok (.ifCond .eq 11, 3) := by decide +kernel
theorem dX10_note_44 : decode cX10_note 44 = .ok (.bipush (-2), 2) := by decide +kernel
theorem dX10_note_46 : decode cX10_note 46 = .ok (.ireturn, 1) := by decide +kernel
theorem dX10_pence_0 : decode cX10_pence 0 = .ok (.aload_n 0, 1) := by decide +kernel
theorem dX10_pence_1 : decode cX10_pence 1 = .ok (.iload_n 2, 1) := by decide +kernel
theorem dX10_pence_2 : decode cX10_pence 2 = .ok (.invokevirtual 168, 3) := by decide +kernel
theorem dX10_pence_5 : decode cX10_pence 5 = .ok (.ifCond .eq 14, 3) := by decide +kernel
theorem dX10_pence_19 : decode cX10_pence 19 = .ok (.iconst (-1), 1) := by decide +kernel
theorem dX10_pence_20 : decode cX10_pence 20 = .ok (.ireturn, 1) := by decide +kernel
theorem dX10_rests_0 : decode cX10_rests 0 = .ok (.aload_n 0, 1) := by decide +kernel
theorem dX10_rests_1 : decode cX10_rests 1 = .ok (.iload_n 1, 1) := by decide +kernel
theorem dX10_rests_2 : decode cX10_rests 2 = .ok (.invokevirtual 236, 3) := by decide +kernel
theorem dX10_rests_5 : decode cX10_rests 5 = .ok (.ifCond .eq 16, 3) := by decide +kernel
theorem dX10_rests_21 : decode cX10_rests 21 = .ok (.iconst (-1), 1) := by decide +kernel
theorem dX10_rests_22 : decode cX10_rests 22 = .ok (.ireturn, 1) := by decide +kernel
theorem dX10_ring_0 : decode cX10_ring 0 = .ok (.aload_n 0, 1) := by decide +kernel
theorem dX10_ring_1 : decode cX10_ring 1 = .ok (.invokevirtual 219, 3) := by decide +kernel
theorem dX10_ring_4 : decode cX10_ring 4 = .ok (.ifCond .eq 12, 3) := by decide +kernel
theorem dX10_ring_16 : decode cX10_ring 16 = .ok (.iconst (-1), 1) := by decide +kernel
theorem dX10_ring_17 : decode cX10_ring 17 = .ok (.ireturn, 1) := by decide +kernel
theorem dX10_ruled_0 : decode cX10_ruled 0 = .ok (.aload_n 0, 1) := by decide +kernel
theorem dX10_ruled_1 : decode cX10_ruled 1 = .ok (.invokevirtual 219, 3) := by decide +kernel
theorem dX10_ruled_4 : decode cX10_ruled 4 = .ok (.ifCond .eq 12, 3) := by decide +kernel
theorem dX10_ruled_16 : decode cX10_ruled 16 = .ok (.bipush (-3), 2) := by decide +kernel
theorem dX10_ruled_18 : decode cX10_ruled 18 = .ok (.ireturn, 1) := by decide +kernel
theorem dX10_safe_0 : decode cX10_safe 0 = .ok (.aload_n 0, 1) := by decide +kernel
theorem dX10_safe_1 : decode cX10_safe 1 = .ok (.iload_n 1, 1) := by decide +kernel
theorem dX10_safe_2 : decode cX10_safe 2 = .ok (.invokevirtual 168, 3) := by decide +kernel
theorem dX10_safe_5 : decode cX10_safe 5 = .ok (.ifCond .ne 5, 3) := by decide +kernel
theorem dX10_safe_8 : decode cX10_safe 8 = .ok (.iconst (-1), 1) := by decide +kernel
theorem dX10_safe_9 : decode cX10_safe 9 = .ok (.ireturn, 1) := by decide +kernel
theorem dX10_seed_0 : decode cX10_seed 0 = .ok (.iload_n 1, 1) := by decide +kernel
theorem dX10_seed_1 : decode cX10_seed 1 = .ok (.ifCond .ge 5, 3) := by decide +kernel
theorem dX10_seed_4 : decode cX10_seed 4 = .ok (.iconst (-1), 1) := by decide +kernel
theorem dX10_seed_5 : decode cX10_seed 5 = .ok (.ireturn, 1) := by decide +kernel
theorem dX10_seed_6 : decode cX10_seed 6 = .ok (.aload_n 0, 1) := by decide +kernel
theorem dX10_seed_7 : decode cX10_seed 7 = .ok (.getfield 55, 3) := by decide +kernel
theorem dX10_seed_10 : decode cX10_seed 10 = .ok (.getfield 216, 3) := by decide +kernel
theorem dX10_seed_13 : decode cX10_seed 13 = .ok (.istore_n 2, 1) := by decide +kernel
theorem dX10_seed_14 : decode cX10_seed 14 = .ok (.aload_n 0, 1) := by decide +kernel
theorem dX10_seed_15 : decode cX10_seed 15 = .ok (.getfield 55, 3) := by decide +kernel
theorem dX10_seed_18 : decode cX10_seed 18 = .ok (.iload_n 1, 1) := by decide +kernel
theorem dX10_seed_19 : decode cX10_seed 19 = .ok (.putfield 216, 3) := by decide +kernel
theorem dX10_seed_22 : decode cX10_seed 22 = .ok (.iload_n 2, 1) := by decide +kernel
theorem dX10_seed_23 : decode cX10_seed 23 = .ok (.ireturn, 1) := by decide +kernel
theorem dX10_set_0 : decode cX10_set 0 = .ok (.aload_n 0, 1) := by decide +kernel
theorem dX10_set_1 : decode cX10_set 1 = .ok (.iload_n 1, 1) := by decide +kernel
theorem dX10_set_2 : decode cX10_set 2 = .ok (.invokevirtual 149, 3) := by decide +kernel
theorem dX10_set_5 : decode cX10_set 5 = .ok (.ifCond .eq 25, 3) := by decide +kernel
theorem dX10_set_30 : decode cX10_set 30 = .ok (.iconst (-1), 1) := by decide +kernel
theorem dX10_set_31 : decode cX10_set 31 = .ok (.ireturn, 1) := by decide +kernel
theorem dX10_step_0 : decode cX10_step 0 = .ok (.aload_n 0, 1) := by decide +kernel
theorem dX10_step_1 : decode cX10_step 1 = .ok (.invokevirtual 219, 3) := by decide +kernel
theorem dX10_step_4 : decode cX10_step 4 = .ok (.ifCond .eq 19, 3) := by decide +kernel
theorem dX10_step_23 : decode cX10_step 23 = .ok (.iconst (-1), 1) := by decide +kernel
theorem dX10_step_24 : decode cX10_step 24 = .ok (.ireturn, 1) := by decide +kernel
theorem dX10_stuck_0 : decode cX10_stuck 0 = .ok (.aload_n 0, 1) := by decide +kernel
theorem dX10_stuck_1 : decode cX10_stuck 1 = .ok (.iload_n 1, 1) := by decide +kernel
theorem dX10_stuck_2 : decode cX10_stuck 2 = .ok (.invokevirtual 168, 3) := by decide +kernel
theorem dX10_stuck_5 : decode cX10_stuck 5 = .ok (.ifCond .ne 5, 3) := by decide +kernel
theorem dX10_stuck_8 : decode cX10_stuck 8 = .ok (.iconst (-1), 1) := by decide +kernel
theorem dX10_stuck_9 : decode cX10_stuck 9 = .ok (.ireturn, 1) := by decide +kernel
theorem dX10_undo_0 : decode cX10_undo 0 = .ok (.aload_n 0, 1) := by decide +kernel
theorem dX10_undo_1 : decode cX10_undo 1 = .ok (.getfield 69, 3) := by decide +kernel
theorem dX10_undo_4 : decode cX10_undo 4 = .ok (.getfield 215, 3) := by decide +kernel
theorem dX10_undo_7 : decode cX10_undo 7 = .ok (.ifCond .ne 5, 3) := by decide +kernel
theorem dX10_undo_10 : decode cX10_undo 10 = .ok (.iconst (-1), 1) := by decide +kernel
theorem dX10_undo_11 : decode cX10_undo 11 = .ok (.ireturn, 1) := by decide +kernel
theorem dX10_walker_0 : decode cX10_walker 0 = .ok (.aload_n 0, 1) := by decide +kernel
theorem dX10_walker_1 : decode cX10_walker 1 = .ok (.iload_n 1, 1) := by decide +kernel
theorem dX10_walker_2 : decode cX10_walker 2 = .ok (.invokevirtual 168, 3) := by decide +kernel
theorem dX10_walker_5 : decode cX10_walker 5 = .ok (.ifCond .ne 5, 3) := by decide +kernel
theorem dX10_walker_8 : decode cX10_walker 8 = .ok (.iconst (-1), 1) := by decide +kernel
theorem dX10_walker_9 : decode cX10_walker 9 = .ok (.ireturn, 1) := by decide +kernel
theorem dX10_waries_0 : decode cX10_waries 0 = .ok (.aload_n 0, 1) := by decide +kernel
theorem dX10_waries_1 : decode cX10_waries 1 = .ok (.iload_n 1, 1) := by decide +kernel
theorem dX10_waries_2 : decode cX10_waries 2 = .ok (.invokevirtual 168, 3) := by decide +kernel
theorem dX10_waries_5 : decode cX10_waries 5 = .ok (.ifCond .eq 20, 3) := by decide +kernel
theorem dX10_waries_25 : decode cX10_waries 25 = .ok (.iconst (-1), 1) := by decide +kernel
theorem dX10_waries_26 : decode cX10_waries 26 = .ok (.ireturn, 1) := by decide +kernel
theorem dX10_ways_0 : decode cX10_ways 0 = .ok (.aload_n 0, 1) := by decide +kernel
theorem dX10_ways_1 : decode cX10_ways 1 = .ok (.iload_n 1, 1) := by decide +kernel
theorem dX10_ways_2 : decode cX10_ways 2 = .ok (.invokevirtual 186, 3) := by decide +kernel
theorem dX10_ways_5 : decode cX10_ways 5 = .ok (.ifCond .eq 18, 3) := by decide +kernel
theorem dX10_ways_23 : decode cX10_ways 23 = .ok (.iconst (-1), 1) := by decide +kernel
theorem dX10_ways_24 : decode cX10_ways 24 = .ok (.ireturn, 1) := by decide +kernel
theorem hd_X10_hasCorner : yX10_hasCorner.cls ≠ "java/lang/invoke/MethodHandle" ∧ yX10_hasCorner.cls ≠ "java/lang/invoke/VarHandle" ∧ (parseMethodDescriptor yX10_hasCorner.desc).map (fun d => d.parameters.length) = some 1 := ⟨by decide +kernel, by decide +kernel, by decide +kernel⟩
theorem hd_X10_hasSetLure : yX10_hasSetLure.cls ≠ "java/lang/invoke/MethodHandle" ∧ yX10_hasSetLure.cls ≠ "java/lang/invoke/VarHandle" ∧ (parseMethodDescriptor yX10_hasSetLure.desc).map (fun d => d.parameters.length) = some 1 := ⟨by decide +kernel, by decide +kernel, by decide +kernel⟩
theorem hd_X10_hasTown : yX10_hasTown.cls ≠ "java/lang/invoke/MethodHandle" ∧ yX10_hasTown.cls ≠ "java/lang/invoke/VarHandle" ∧ (parseMethodDescriptor yX10_hasTown.desc).map (fun d => d.parameters.length) = some 0 := ⟨by decide +kernel, by decide +kernel, by decide +kernel⟩
theorem hd_X10_hasWalker : yX10_hasWalker.cls ≠ "java/lang/invoke/MethodHandle" ∧ yX10_hasWalker.cls ≠ "java/lang/invoke/VarHandle" ∧ (parseMethodDescriptor yX10_hasWalker.desc).map (fun d => d.parameters.length) = some 1 := ⟨by decide +kernel, by decide +kernel, by decide +kernel⟩
set_option maxHeartbeats 4000000 in
set_option maxRecDepth 100000 in
theorem k_lure (l : Launch) (D : va_G) (K : Nat → ClassId) (h0 : Nat) (tp : Nat) (tr : Nat) (rr : Nat) (dr : Nat) (rs : Nat) (nr : Nat) (nw : Nat) (im : Nat) (ac : Nat) (co : Nat) (al : Nat) (ta : Nat) (ma : Nat) (ga : Nat) (og : Nat) (pl : Nat) (sa : Nat) (no : Nat) (j0 : Nat) (j1 : Nat) (j2 : Nat) (j3 : Nat) (j4 : Nat) (j5 : Nat) (p1 : Int32) (p2 : Int32) : mI (S := mU) l yX10_lure cX10_lure 3 .int ({ frames := 1, cells := 0, slots := 0, locals := 21 }) D K [(h0, .inr (10, [.ref tp, .ref tr, .ref rr, .ref dr, .ref rs, .int 0, .ref nr, .ref nw, .ref im, .int 0, .ref ac, .ref co, .ref al, .ref ta, .ref ma, .ref ga, .ref og])), (nw, .inr (2, [.ref pl, .ref sa, .ref no, .int (-1), .int 0])), (pl, .inr (8, [.int 0, .int 0, .int 0, .int 0, .ref j0, .ref j1, .ref j2, .ref j3, .ref j4, .ref j5]))] [.ref h0, .int p1, .int p2] (fun r u => r = (-1)) (fun u => []) := by
  refine m_enterI (by decide) (Nat.le_of_ble_eq_true rfl) ?_
  intro p e s m args below meth c A ls E hr G hl
  have E : mE p s m meth c cX10_lure args 3 RX10 D K A := E
  have hl : lv_has ls 3 [(0, .ref h0), (1, .int p1), (2, .int p2)] := hl
  obtain ⟨H, hH⟩ : ∃ H, H = s.heap := ⟨_, rfl⟩
  obtain ⟨locs, hlo⟩ : ∃ L : List Loc, L = [] := ⟨_, rfl⟩
  rw [← hH, ← hlo] at G
  rw [← hH, ← hlo]
  have G : mG D A s H locs [(h0, .inr (10, [.ref tp, .ref tr, .ref rr, .ref dr, .ref rs, .int 0, .ref nr, .ref nw, .ref im, .int 0, .ref ac, .ref co, .ref al, .ref ta, .ref ma, .ref ga, .ref og])), (nw, .inr (2, [.ref pl, .ref sa, .ref no, .int (-1), .int 0])), (pl, .inr (8, [.int 0, .int 0, .int 0, .int 0, .ref j0, .ref j1, .ref j2, .ref j3, .ref j4, .ref j5]))] := G
  clear hH hlo
  refine lv_aload_n E.1 E.2.1 dX10_lure_0 rfl (lv_at hl 0 rfl) ?_
  refine lv_iload_n E.1 E.2.1 dX10_lure_1 rfl (lv_at hl 1 rfl) ?_
  refine m_vi E G hl (k_hasLure l D K h0 tp tr rr dr rs nr nw im ac co al ta ma ga og pl sa no j0 j1 j2 j3 j4 j5 p1) (wr := []) [0, 1, 2] [] rfl rfl (by decide) (by decide) (by decide) 0 (ci := 10) rfl rfl rfl 1 rfl mw_code_X10_hasLure mw_ini_10 mw_ml_10_149 mw_inst_X10_hasLure mw_sel_X10_hasLure hd_X10_hasLure ⟨by decide, by decide⟩ rfl (Nat.le_of_ble_eq_true rfl) ⟨by decide, by decide⟩ dX10_lure_2 (fun r_2 u_1 H locs hp G => ?_)
  have G : mG D A s H locs [] := G
  subst hp
  refine lv_if_ne (tgt := 10) E.1 E.2.1 dX10_lure_5 (by decide) (fun h => absurd (by decide) h) (fun _ => ?_)
  refine lv_iconst (v := (-1)) E.1 E.2.1 dX10_lure_8 (by decide) ?_
  exact m_reti E G hr rfl (fun _ => 0, fun _ _ => 0, fun _ _ => none) rfl [] (by decide) rfl (by decide) (by decide) dX10_lure_9
set_option maxHeartbeats 4000000 in
set_option maxRecDepth 100000 in
theorem k_walker (l : Launch) (D : va_G) (K : Nat → ClassId) (h0 : Nat) (tp : Nat) (tr : Nat) (rr : Nat) (dr : Nat) (rs : Nat) (nr : Nat) (nw : Nat) (im : Nat) (ac : Nat) (co : Nat) (al : Nat) (ta : Nat) (ma : Nat) (ga : Nat) (og : Nat) (pl : Nat) (sa : Nat) (no : Nat) (j0 : Nat) (j1 : Nat) (j2 : Nat) (j3 : Nat) (j4 : Nat) (j5 : Nat) (p1 : Int32) (p2 : Int32) : mI (S := mU) l yX10_walker cX10_walker 3 .int ({ frames := 1, cells := 0, slots := 0, locals := 21 }) D K [(h0, .inr (10, [.ref tp, .ref tr, .ref rr, .ref dr, .ref rs, .int 0, .ref nr, .ref nw, .ref im, .int 0, .ref ac, .ref co, .ref al, .ref ta, .ref ma, .ref ga, .ref og])), (nw, .inr (2, [.ref pl, .ref sa, .ref no, .int (-1), .int 0])), (pl, .inr (8, [.int 0, .int 0, .int 0, .int 0, .ref j0, .ref j1, .ref j2, .ref j3, .ref j4, .ref j5]))] [.ref h0, .int p1, .int p2] (fun r u => r = (-1)) (fun u => []) := by
  refine m_enterI (by decide) (Nat.le_of_ble_eq_true rfl) ?_
  intro p e s m args below meth c A ls E hr G hl
  have E : mE p s m meth c cX10_walker args 3 RX10 D K A := E
  have hl : lv_has ls 3 [(0, .ref h0), (1, .int p1), (2, .int p2)] := hl
  obtain ⟨H, hH⟩ : ∃ H, H = s.heap := ⟨_, rfl⟩
  obtain ⟨locs, hlo⟩ : ∃ L : List Loc, L = [] := ⟨_, rfl⟩
  rw [← hH, ← hlo] at G
  rw [← hH, ← hlo]
  have G : mG D A s H locs [(h0, .inr (10, [.ref tp, .ref tr, .ref rr, .ref dr, .ref rs, .int 0, .ref nr, .ref nw, .ref im, .int 0, .ref ac, .ref co, .ref al, .ref ta, .ref ma, .ref ga, .ref og])), (nw, .inr (2, [.ref pl, .ref sa, .ref no, .int (-1), .int 0])), (pl, .inr (8, [.int 0, .int 0, .int 0, .int 0, .ref j0, .ref j1, .ref j2, .ref j3, .ref j4, .ref j5]))] := G
  clear hH hlo
  refine lv_aload_n E.1 E.2.1 dX10_walker_0 rfl (lv_at hl 0 rfl) ?_
  refine lv_iload_n E.1 E.2.1 dX10_walker_1 rfl (lv_at hl 1 rfl) ?_
  refine m_vi E G hl (k_hasWalker l D K h0 tp tr rr dr rs nr nw im ac co al ta ma ga og pl sa no j0 j1 j2 j3 j4 j5 p1) (wr := []) [0, 1, 2] [] rfl rfl (by decide) (by decide) (by decide) 0 (ci := 10) rfl rfl rfl 1 rfl mw_code_X10_hasWalker mw_ini_10 mw_ml_10_168 mw_inst_X10_hasWalker mw_sel_X10_hasWalker hd_X10_hasWalker ⟨by decide, by decide⟩ rfl (Nat.le_of_ble_eq_true rfl) ⟨by decide, by decide⟩ dX10_walker_2 (fun r_2 u_1 H locs hp G => ?_)
  have G : mG D A s H locs [] := G
  subst hp
  refine lv_if_ne (tgt := 10) E.1 E.2.1 dX10_walker_5 (by decide) (fun h => absurd (by decide) h) (fun _ => ?_)
  refine lv_iconst (v := (-1)) E.1 E.2.1 dX10_walker_8 (by decide) ?_
  exact m_reti E G hr rfl (fun _ => 0, fun _ _ => 0, fun _ _ => none) rfl [] (by decide) rfl (by decide) (by decide) dX10_walker_9
set_option maxHeartbeats 4000000 in
set_option maxRecDepth 100000 in
theorem k_ways (l : Launch) (D : va_G) (K : Nat → ClassId) (h0 : Nat) (tp : Nat) (tr : Nat) (rr : Nat) (dr : Nat) (rs : Nat) (nr : Nat) (nw : Nat) (im : Nat) (ac : Nat) (co : Nat) (al : Nat) (ta : Nat) (ma : Nat) (ga : Nat) (og : Nat) (pl : Nat) (sa : Nat) (no : Nat) (j0 : Nat) (j1 : Nat) (j2 : Nat) (j3 : Nat) (j4 : Nat) (j5 : Nat) (p1 : Int32) : mI (S := mU) l yX10_ways cX10_ways 2 .int ({ frames := 1, cells := 0, slots := 0, locals := 21 }) D K [(h0, .inr (10, [.ref tp, .ref tr, .ref rr, .ref dr, .ref rs, .int 0, .ref nr, .ref nw, .ref im, .int 0, .ref ac, .ref co, .ref al, .ref ta, .ref ma, .ref ga, .ref og])), (nw, .inr (2, [.ref pl, .ref sa, .ref no, .int (-1), .int 0])), (pl, .inr (8, [.int 0, .int 0, .int 0, .int 0, .ref j0, .ref j1, .ref j2, .ref j3, .ref j4, .ref j5]))] [.ref h0, .int p1] (fun r u => r = (-1)) (fun u => []) := by
  refine m_enterI (by decide) (Nat.le_of_ble_eq_true rfl) ?_
  intro p e s m args below meth c A ls E hr G hl
  have E : mE p s m meth c cX10_ways args 2 RX10 D K A := E
  have hl : lv_has ls 2 [(0, .ref h0), (1, .int p1)] := hl
  obtain ⟨H, hH⟩ : ∃ H, H = s.heap := ⟨_, rfl⟩
  obtain ⟨locs, hlo⟩ : ∃ L : List Loc, L = [] := ⟨_, rfl⟩
  rw [← hH, ← hlo] at G
  rw [← hH, ← hlo]
  have G : mG D A s H locs [(h0, .inr (10, [.ref tp, .ref tr, .ref rr, .ref dr, .ref rs, .int 0, .ref nr, .ref nw, .ref im, .int 0, .ref ac, .ref co, .ref al, .ref ta, .ref ma, .ref ga, .ref og])), (nw, .inr (2, [.ref pl, .ref sa, .ref no, .int (-1), .int 0])), (pl, .inr (8, [.int 0, .int 0, .int 0, .int 0, .ref j0, .ref j1, .ref j2, .ref j3, .ref j4, .ref j5]))] := G
  clear hH hlo
  refine lv_aload_n E.1 E.2.1 dX10_ways_0 rfl (lv_at hl 0 rfl) ?_
  refine lv_iload_n E.1 E.2.1 dX10_ways_1 rfl (lv_at hl 1 rfl) ?_
  refine m_vi E G hl (k_hasCorner l D K h0 tp tr rr dr rs nr nw im ac co al ta ma ga og pl sa no j0 j1 j2 j3 j4 j5 p1) (wr := []) [0, 1, 2] [] rfl rfl (by decide) (by decide) (by decide) 0 (ci := 10) rfl rfl rfl 1 rfl mw_code_X10_hasCorner mw_ini_10 mw_ml_10_186 mw_inst_X10_hasCorner mw_sel_X10_hasCorner hd_X10_hasCorner ⟨by decide, by decide⟩ rfl (Nat.le_of_ble_eq_true rfl) ⟨by decide, by decide⟩ dX10_ways_2 (fun r_2 u_1 H locs hp G => ?_)
  have G : mG D A s H locs [] := G
  subst hp
  refine lv_if_eq (tgt := 23) E.1 E.2.1 dX10_ways_5 (by decide) (fun _ => ?_) (fun h => absurd (by decide) h)
  refine lv_iconst (v := (-1)) E.1 E.2.1 dX10_ways_23 (by decide) ?_
  exact m_reti E G hr rfl (fun _ => 0, fun _ _ => 0, fun _ _ => none) rfl [] (by decide) rfl (by decide) (by decide) dX10_ways_24
set_option maxHeartbeats 4000000 in
set_option maxRecDepth 100000 in
theorem k_step (l : Launch) (D : va_G) (K : Nat → ClassId) (h0 : Nat) (tp : Nat) (tr : Nat) (rr : Nat) (dr : Nat) (rs : Nat) (nr : Nat) (nw : Nat) (im : Nat) (ac : Nat) (co : Nat) (al : Nat) (ta : Nat) (ma : Nat) (ga : Nat) (og : Nat) (pl : Nat) (sa : Nat) (no : Nat) (j0 : Nat) (j1 : Nat) (j2 : Nat) (j3 : Nat) (j4 : Nat) (j5 : Nat) : mI (S := mU) l yX10_step cX10_step 2 .int ({ frames := 1, cells := 0, slots := 0, locals := 20 }) D K [(h0, .inr (10, [.ref tp, .ref tr, .ref rr, .ref dr, .ref rs, .int 0, .ref nr, .ref nw, .ref im, .int 0, .ref ac, .ref co, .ref al, .ref ta, .ref ma, .ref ga, .ref og])), (nw, .inr (2, [.ref pl, .ref sa, .ref no, .int (-1), .int 0])), (pl, .inr (8, [.int 0, .int 0, .int 0, .int 0, .ref j0, .ref j1, .ref j2, .ref j3, .ref j4, .ref j5]))] [.ref h0] (fun r u => r = (-1)) (fun u => []) := by
  refine m_enterI (by decide) (Nat.le_of_ble_eq_true rfl) ?_
  intro p e s m args below meth c A ls E hr G hl
  have E : mE p s m meth c cX10_step args 2 RX10 D K A := E
  have hl : lv_has ls 2 [(0, .ref h0)] := hl
  obtain ⟨H, hH⟩ : ∃ H, H = s.heap := ⟨_, rfl⟩
  obtain ⟨locs, hlo⟩ : ∃ L : List Loc, L = [] := ⟨_, rfl⟩
  rw [← hH, ← hlo] at G
  rw [← hH, ← hlo]
  have G : mG D A s H locs [(h0, .inr (10, [.ref tp, .ref tr, .ref rr, .ref dr, .ref rs, .int 0, .ref nr, .ref nw, .ref im, .int 0, .ref ac, .ref co, .ref al, .ref ta, .ref ma, .ref ga, .ref og])), (nw, .inr (2, [.ref pl, .ref sa, .ref no, .int (-1), .int 0])), (pl, .inr (8, [.int 0, .int 0, .int 0, .int 0, .ref j0, .ref j1, .ref j2, .ref j3, .ref j4, .ref j5]))] := G
  clear hH hlo
  refine lv_aload_n E.1 E.2.1 dX10_step_0 rfl (lv_at hl 0 rfl) ?_
  refine m_vi E G hl (k_hasTown l D K h0 tp tr rr dr rs nr nw im ac co al ta ma ga og pl sa no j0 j1 j2 j3 j4 j5) (wr := []) [0, 1, 2] [] rfl rfl (by decide) (by decide) (by decide) 0 (ci := 10) rfl rfl rfl 0 rfl mw_code_X10_hasTown mw_ini_10 mw_ml_10_219 mw_inst_X10_hasTown mw_sel_X10_hasTown hd_X10_hasTown ⟨by decide, by decide⟩ rfl (Nat.le_of_ble_eq_true rfl) ⟨by decide, by decide⟩ dX10_step_1 (fun r_2 u_1 H locs hp G => ?_)
  have G : mG D A s H locs [] := G
  subst hp
  refine lv_if_eq (tgt := 23) E.1 E.2.1 dX10_step_4 (by decide) (fun _ => ?_) (fun h => absurd (by decide) h)
  refine lv_iconst (v := (-1)) E.1 E.2.1 dX10_step_23 (by decide) ?_
  exact m_reti E G hr rfl (fun _ => 0, fun _ _ => 0, fun _ _ => none) rfl [] (by decide) rfl (by decide) (by decide) dX10_step_24
set_option maxHeartbeats 4000000 in
set_option maxRecDepth 100000 in
theorem k_set (l : Launch) (D : va_G) (K : Nat → ClassId) (h0 : Nat) (tp : Nat) (tr : Nat) (rr : Nat) (dr : Nat) (rs : Nat) (nr : Nat) (nw : Nat) (im : Nat) (ac : Nat) (co : Nat) (al : Nat) (ta : Nat) (ma : Nat) (ga : Nat) (og : Nat) (pl : Nat) (sa : Nat) (no : Nat) (j0 : Nat) (j1 : Nat) (j2 : Nat) (j3 : Nat) (j4 : Nat) (j5 : Nat) (p1 : Int32) (p2 : Int32) : mI (S := mU) l yX10_set cX10_set 4 .int ({ frames := 1, cells := 0, slots := 0, locals := 21 }) D K [(h0, .inr (10, [.ref tp, .ref tr, .ref rr, .ref dr, .ref rs, .int 0, .ref nr, .ref nw, .ref im, .int 0, .ref ac, .ref co, .ref al, .ref ta, .ref ma, .ref ga, .ref og])), (nw, .inr (2, [.ref pl, .ref sa, .ref no, .int (-1), .int 0])), (pl, .inr (8, [.int 0, .int 0, .int 0, .int 0, .ref j0, .ref j1, .ref j2, .ref j3, .ref j4, .ref j5]))] [.ref h0, .int p1, .int p2] (fun r u => r = (-1)) (fun u => []) := by
  refine m_enterI (by decide) (Nat.le_of_ble_eq_true rfl) ?_
  intro p e s m args below meth c A ls E hr G hl
  have E : mE p s m meth c cX10_set args 4 RX10 D K A := E
  have hl : lv_has ls 4 [(0, .ref h0), (1, .int p1), (2, .int p2)] := hl
  obtain ⟨H, hH⟩ : ∃ H, H = s.heap := ⟨_, rfl⟩
  obtain ⟨locs, hlo⟩ : ∃ L : List Loc, L = [] := ⟨_, rfl⟩
  rw [← hH, ← hlo] at G
  rw [← hH, ← hlo]
  have G : mG D A s H locs [(h0, .inr (10, [.ref tp, .ref tr, .ref rr, .ref dr, .ref rs, .int 0, .ref nr, .ref nw, .ref im, .int 0, .ref ac, .ref co, .ref al, .ref ta, .ref ma, .ref ga, .ref og])), (nw, .inr (2, [.ref pl, .ref sa, .ref no, .int (-1), .int 0])), (pl, .inr (8, [.int 0, .int 0, .int 0, .int 0, .ref j0, .ref j1, .ref j2, .ref j3, .ref j4, .ref j5]))] := G
  clear hH hlo
  refine lv_aload_n E.1 E.2.1 dX10_set_0 rfl (lv_at hl 0 rfl) ?_
  refine lv_iload_n E.1 E.2.1 dX10_set_1 rfl (lv_at hl 1 rfl) ?_
  refine m_vi E G hl (k_hasLure l D K h0 tp tr rr dr rs nr nw im ac co al ta ma ga og pl sa no j0 j1 j2 j3 j4 j5 p1) (wr := []) [0, 1, 2] [] rfl rfl (by decide) (by decide) (by decide) 0 (ci := 10) rfl rfl rfl 1 rfl mw_code_X10_hasLure mw_ini_10 mw_ml_10_149 mw_inst_X10_hasLure mw_sel_X10_hasLure hd_X10_hasLure ⟨by decide, by decide⟩ rfl (Nat.le_of_ble_eq_true rfl) ⟨by decide, by decide⟩ dX10_set_2 (fun r_2 u_1 H locs hp G => ?_)
  have G : mG D A s H locs [] := G
  subst hp
  refine lv_if_eq (tgt := 30) E.1 E.2.1 dX10_set_5 (by decide) (fun _ => ?_) (fun h => absurd (by decide) h)
  refine lv_iconst (v := (-1)) E.1 E.2.1 dX10_set_30 (by decide) ?_
  exact m_reti E G hr rfl (fun _ => 0, fun _ _ => 0, fun _ _ => none) rfl [] (by decide) rfl (by decide) (by decide) dX10_set_31
set_option maxHeartbeats 4000000 in
set_option maxRecDepth 100000 in
theorem k_move (l : Launch) (D : va_G) (K : Nat → ClassId) (h0 : Nat) (tp : Nat) (tr : Nat) (rr : Nat) (dr : Nat) (rs : Nat) (nr : Nat) (nw : Nat) (im : Nat) (ac : Nat) (co : Nat) (al : Nat) (ta : Nat) (ma : Nat) (ga : Nat) (og : Nat) (pl : Nat) (sa : Nat) (no : Nat) (j0 : Nat) (j1 : Nat) (j2 : Nat) (j3 : Nat) (j4 : Nat) (j5 : Nat) (p1 : Int32) (p2 : Int32) : mI (S := mU) l yX10_move cX10_move 4 .int ({ frames := 2, cells := 0, slots := 0, locals := 42 }) D K [(h0, .inr (10, [.ref tp, .ref tr, .ref rr, .ref dr, .ref rs, .int 0, .ref nr, .ref nw, .ref im, .int 0, .ref ac, .ref co, .ref al, .ref ta, .ref ma, .ref ga, .ref og])), (nw, .inr (2, [.ref pl, .ref sa, .ref no, .int (-1), .int 0])), (pl, .inr (8, [.int 0, .int 0, .int 0, .int 0, .ref j0, .ref j1, .ref j2, .ref j3, .ref j4, .ref j5]))] [.ref h0, .int p1, .int p2] (fun r u => r = (-1)) (fun u => []) := by
  refine m_enterI (by decide) (Nat.le_of_ble_eq_true rfl) ?_
  intro p e s m args below meth c A ls E hr G hl
  have E : mE p s m meth c cX10_move args 4 RX10 D K A := E
  have hl : lv_has ls 4 [(0, .ref h0), (1, .int p1), (2, .int p2)] := hl
  obtain ⟨H, hH⟩ : ∃ H, H = s.heap := ⟨_, rfl⟩
  obtain ⟨locs, hlo⟩ : ∃ L : List Loc, L = [] := ⟨_, rfl⟩
  rw [← hH, ← hlo] at G
  rw [← hH, ← hlo]
  have G : mG D A s H locs [(h0, .inr (10, [.ref tp, .ref tr, .ref rr, .ref dr, .ref rs, .int 0, .ref nr, .ref nw, .ref im, .int 0, .ref ac, .ref co, .ref al, .ref ta, .ref ma, .ref ga, .ref og])), (nw, .inr (2, [.ref pl, .ref sa, .ref no, .int (-1), .int 0])), (pl, .inr (8, [.int 0, .int 0, .int 0, .int 0, .ref j0, .ref j1, .ref j2, .ref j3, .ref j4, .ref j5]))] := G
  clear hH hlo
  refine lv_aload_n E.1 E.2.1 dX10_move_0 rfl (lv_at hl 0 rfl) ?_
  refine lv_iload_n E.1 E.2.1 dX10_move_1 rfl (lv_at hl 1 rfl) ?_
  refine m_vi E G hl (k_hasSetLure l D K h0 tp tr rr dr rs nr nw im ac co al ta ma ga og pl sa no j0 j1 j2 j3 j4 j5 p1) (wr := []) [0, 1, 2] [] rfl rfl (by decide) (by decide) (by decide) 0 (ci := 10) rfl rfl rfl 1 rfl mw_code_X10_hasSetLure mw_ini_10 mw_ml_10_236 mw_inst_X10_hasSetLure mw_sel_X10_hasSetLure hd_X10_hasSetLure ⟨by decide, by decide⟩ rfl (Nat.le_of_ble_eq_true rfl) ⟨by decide, by decide⟩ dX10_move_2 (fun r_2 u_1 H locs hp G => ?_)
  have G : mG D A s H locs [] := G
  subst hp
  refine lv_if_eq (tgt := 32) E.1 E.2.1 dX10_move_5 (by decide) (fun _ => ?_) (fun h => absurd (by decide) h)
  refine lv_iconst (v := (-1)) E.1 E.2.1 dX10_move_32 (by decide) ?_
  exact m_reti E G hr rfl (fun _ => 0, fun _ _ => 0, fun _ _ => none) rfl [] (by decide) rfl (by decide) (by decide) dX10_move_33
set_option maxHeartbeats 4000000 in
set_option maxRecDepth 100000 in
theorem k_bait (l : Launch) (D : va_G) (K : Nat → ClassId) (h0 : Nat) (tp : Nat) (tr : Nat) (rr : Nat) (dr : Nat) (rs : Nat) (nr : Nat) (nw : Nat) (im : Nat) (ac : Nat) (co : Nat) (al : Nat) (ta : Nat) (ma : Nat) (ga : Nat) (og : Nat) (pl : Nat) (sa : Nat) (no : Nat) (j0 : Nat) (j1 : Nat) (j2 : Nat) (j3 : Nat) (j4 : Nat) (j5 : Nat) (p1 : Int32) (p2 : Int32) : mI (S := mU) l yX10_bait cX10_bait 4 .int ({ frames := 1, cells := 0, slots := 0, locals := 21 }) D K [(h0, .inr (10, [.ref tp, .ref tr, .ref rr, .ref dr, .ref rs, .int 0, .ref nr, .ref nw, .ref im, .int 0, .ref ac, .ref co, .ref al, .ref ta, .ref ma, .ref ga, .ref og])), (nw, .inr (2, [.ref pl, .ref sa, .ref no, .int (-1), .int 0])), (pl, .inr (8, [.int 0, .int 0, .int 0, .int 0, .ref j0, .ref j1, .ref j2, .ref j3, .ref j4, .ref j5]))] [.ref h0, .int p1, .int p2] (fun r u => r = (-1)) (fun u => []) := by
  refine m_enterI (by decide) (Nat.le_of_ble_eq_true rfl) ?_
  intro p e s m args below meth c A ls E hr G hl
  have E : mE p s m meth c cX10_bait args 4 RX10 D K A := E
  have hl : lv_has ls 4 [(0, .ref h0), (1, .int p1), (2, .int p2)] := hl
  obtain ⟨H, hH⟩ : ∃ H, H = s.heap := ⟨_, rfl⟩
  obtain ⟨locs, hlo⟩ : ∃ L : List Loc, L = [] := ⟨_, rfl⟩
  rw [← hH, ← hlo] at G
  rw [← hH, ← hlo]
  have G : mG D A s H locs [(h0, .inr (10, [.ref tp, .ref tr, .ref rr, .ref dr, .ref rs, .int 0, .ref nr, .ref nw, .ref im, .int 0, .ref ac, .ref co, .ref al, .ref ta, .ref ma, .ref ga, .ref og])), (nw, .inr (2, [.ref pl, .ref sa, .ref no, .int (-1), .int 0])), (pl, .inr (8, [.int 0, .int 0, .int 0, .int 0, .ref j0, .ref j1, .ref j2, .ref j3, .ref j4, .ref j5]))] := G
  clear hH hlo
  refine lv_aload_n E.1 E.2.1 dX10_bait_0 rfl (lv_at hl 0 rfl) ?_
  refine lv_iload_n E.1 E.2.1 dX10_bait_1 rfl (lv_at hl 1 rfl) ?_
  refine m_vi E G hl (k_hasLure l D K h0 tp tr rr dr rs nr nw im ac co al ta ma ga og pl sa no j0 j1 j2 j3 j4 j5 p1) (wr := []) [0, 1, 2] [] rfl rfl (by decide) (by decide) (by decide) 0 (ci := 10) rfl rfl rfl 1 rfl mw_code_X10_hasLure mw_ini_10 mw_ml_10_149 mw_inst_X10_hasLure mw_sel_X10_hasLure hd_X10_hasLure ⟨by decide, by decide⟩ rfl (Nat.le_of_ble_eq_true rfl) ⟨by decide, by decide⟩ dX10_bait_2 (fun r_2 u_1 H locs hp G => ?_)
  have G : mG D A s H locs [] := G
  subst hp
  refine lv_if_eq (tgt := 34) E.1 E.2.1 dX10_bait_5 (by decide) (fun _ => ?_) (fun h => absurd (by decide) h)
  refine lv_iconst (v := (-1)) E.1 E.2.1 dX10_bait_34 (by decide) ?_
  exact m_reti E G hr rfl (fun _ => 0, fun _ _ => 0, fun _ _ => none) rfl [] (by decide) rfl (by decide) (by decide) dX10_bait_35
set_option maxHeartbeats 4000000 in
set_option maxRecDepth 100000 in
theorem k_calm (l : Launch) (D : va_G) (K : Nat → ClassId) (h0 : Nat) (tp : Nat) (tr : Nat) (rr : Nat) (dr : Nat) (rs : Nat) (nr : Nat) (nw : Nat) (im : Nat) (ac : Nat) (co : Nat) (al : Nat) (ta : Nat) (ma : Nat) (ga : Nat) (og : Nat) (pl : Nat) (sa : Nat) (no : Nat) (j0 : Nat) (j1 : Nat) (j2 : Nat) (j3 : Nat) (j4 : Nat) (j5 : Nat) (p1 : Int32) (p2 : Int32) : mI (S := mU) l yX10_calm cX10_calm 4 .int ({ frames := 1, cells := 0, slots := 0, locals := 21 }) D K [(h0, .inr (10, [.ref tp, .ref tr, .ref rr, .ref dr, .ref rs, .int 0, .ref nr, .ref nw, .ref im, .int 0, .ref ac, .ref co, .ref al, .ref ta, .ref ma, .ref ga, .ref og])), (nw, .inr (2, [.ref pl, .ref sa, .ref no, .int (-1), .int 0])), (pl, .inr (8, [.int 0, .int 0, .int 0, .int 0, .ref j0, .ref j1, .ref j2, .ref j3, .ref j4, .ref j5]))] [.ref h0, .int p1, .int p2] (fun r u => r = (-1)) (fun u => []) := by
  refine m_enterI (by decide) (Nat.le_of_ble_eq_true rfl) ?_
  intro p e s m args below meth c A ls E hr G hl
  have E : mE p s m meth c cX10_calm args 4 RX10 D K A := E
  have hl : lv_has ls 4 [(0, .ref h0), (1, .int p1), (2, .int p2)] := hl
  obtain ⟨H, hH⟩ : ∃ H, H = s.heap := ⟨_, rfl⟩
  obtain ⟨locs, hlo⟩ : ∃ L : List Loc, L = [] := ⟨_, rfl⟩
  rw [← hH, ← hlo] at G
  rw [← hH, ← hlo]
  have G : mG D A s H locs [(h0, .inr (10, [.ref tp, .ref tr, .ref rr, .ref dr, .ref rs, .int 0, .ref nr, .ref nw, .ref im, .int 0, .ref ac, .ref co, .ref al, .ref ta, .ref ma, .ref ga, .ref og])), (nw, .inr (2, [.ref pl, .ref sa, .ref no, .int (-1), .int 0])), (pl, .inr (8, [.int 0, .int 0, .int 0, .int 0, .ref j0, .ref j1, .ref j2, .ref j3, .ref j4, .ref j5]))] := G
  clear hH hlo
  refine lv_aload_n E.1 E.2.1 dX10_calm_0 rfl (lv_at hl 0 rfl) ?_
  refine lv_iload_n E.1 E.2.1 dX10_calm_1 rfl (lv_at hl 1 rfl) ?_
  refine m_vi E G hl (k_hasWalker l D K h0 tp tr rr dr rs nr nw im ac co al ta ma ga og pl sa no j0 j1 j2 j3 j4 j5 p1) (wr := []) [0, 1, 2] [] rfl rfl (by decide) (by decide) (by decide) 0 (ci := 10) rfl rfl rfl 1 rfl mw_code_X10_hasWalker mw_ini_10 mw_ml_10_168 mw_inst_X10_hasWalker mw_sel_X10_hasWalker hd_X10_hasWalker ⟨by decide, by decide⟩ rfl (Nat.le_of_ble_eq_true rfl) ⟨by decide, by decide⟩ dX10_calm_2 (fun r_2 u_1 H locs hp G => ?_)
  have G : mG D A s H locs [] := G
  subst hp
  refine lv_if_eq (tgt := 34) E.1 E.2.1 dX10_calm_5 (by decide) (fun _ => ?_) (fun h => absurd (by decide) h)
  refine lv_iconst (v := (-1)) E.1 E.2.1 dX10_calm_34 (by decide) ?_
  exact m_reti E G hr rfl (fun _ => 0, fun _ _ => 0, fun _ _ => none) rfl [] (by decide) rfl (by decide) (by decide) dX10_calm_35
set_option maxHeartbeats 4000000 in
set_option maxRecDepth 100000 in
theorem k_ahead (l : Launch) (D : va_G) (K : Nat → ClassId) (h0 : Nat) (tp : Nat) (tr : Nat) (rr : Nat) (dr : Nat) (rs : Nat) (nr : Nat) (nw : Nat) (im : Nat) (ac : Nat) (co : Nat) (al : Nat) (ta : Nat) (ma : Nat) (ga : Nat) (og : Nat) (pl : Nat) (sa : Nat) (no : Nat) (j0 : Nat) (j1 : Nat) (j2 : Nat) (j3 : Nat) (j4 : Nat) (j5 : Nat) (p1 : Int32) (p2 : Int32) (p3 : Int32) : mI (S := mU) l yX10_ahead cX10_ahead 4 .int ({ frames := 1, cells := 0, slots := 0, locals := 20 }) D K [(h0, .inr (10, [.ref tp, .ref tr, .ref rr, .ref dr, .ref rs, .int 0, .ref nr, .ref nw, .ref im, .int 0, .ref ac, .ref co, .ref al, .ref ta, .ref ma, .ref ga, .ref og])), (nw, .inr (2, [.ref pl, .ref sa, .ref no, .int (-1), .int 0])), (pl, .inr (8, [.int 0, .int 0, .int 0, .int 0, .ref j0, .ref j1, .ref j2, .ref j3, .ref j4, .ref j5]))] [.ref h0, .int p1, .int p2, .int p3] (fun r u => r = (-1)) (fun u => []) := by
  refine m_enterI (by decide) (Nat.le_of_ble_eq_true rfl) ?_
  intro p e s m args below meth c A ls E hr G hl
  have E : mE p s m meth c cX10_ahead args 4 RX10 D K A := E
  have hl : lv_has ls 4 [(0, .ref h0), (1, .int p1), (2, .int p2), (3, .int p3)] := hl
  obtain ⟨H, hH⟩ : ∃ H, H = s.heap := ⟨_, rfl⟩
  obtain ⟨locs, hlo⟩ : ∃ L : List Loc, L = [] := ⟨_, rfl⟩
  rw [← hH, ← hlo] at G
  rw [← hH, ← hlo]
  have G : mG D A s H locs [(h0, .inr (10, [.ref tp, .ref tr, .ref rr, .ref dr, .ref rs, .int 0, .ref nr, .ref nw, .ref im, .int 0, .ref ac, .ref co, .ref al, .ref ta, .ref ma, .ref ga, .ref og])), (nw, .inr (2, [.ref pl, .ref sa, .ref no, .int (-1), .int 0])), (pl, .inr (8, [.int 0, .int 0, .int 0, .int 0, .ref j0, .ref j1, .ref j2, .ref j3, .ref j4, .ref j5]))] := G
  clear hH hlo
  refine lv_aload_n E.1 E.2.1 dX10_ahead_0 rfl (lv_at hl 0 rfl) ?_
  refine m_vi E G hl (k_hasTown l D K h0 tp tr rr dr rs nr nw im ac co al ta ma ga og pl sa no j0 j1 j2 j3 j4 j5) (wr := []) [0, 1, 2] [] rfl rfl (by decide) (by decide) (by decide) 0 (ci := 10) rfl rfl rfl 0 rfl mw_code_X10_hasTown mw_ini_10 mw_ml_10_219 mw_inst_X10_hasTown mw_sel_X10_hasTown hd_X10_hasTown ⟨by decide, by decide⟩ rfl (Nat.le_of_ble_eq_true rfl) ⟨by decide, by decide⟩ dX10_ahead_1 (fun r_2 u_1 H locs hp G => ?_)
  have G : mG D A s H locs [] := G
  subst hp
  refine lv_if_eq (tgt := 26) E.1 E.2.1 dX10_ahead_4 (by decide) (fun _ => ?_) (fun h => absurd (by decide) h)
  refine lv_iconst (v := (-1)) E.1 E.2.1 dX10_ahead_26 (by decide) ?_
  exact m_reti E G hr rfl (fun _ => 0, fun _ _ => 0, fun _ _ => none) rfl [] (by decide) rfl (by decide) (by decide) dX10_ahead_27
set_option maxHeartbeats 4000000 in
set_option maxRecDepth 100000 in
theorem k_had (l : Launch) (D : va_G) (K : Nat → ClassId) (h0 : Nat) (tp : Nat) (tr : Nat) (rr : Nat) (dr : Nat) (rs : Nat) (nr : Nat) (nw : Nat) (im : Nat) (ac : Nat) (co : Nat) (al : Nat) (ta : Nat) (ma : Nat) (ga : Nat) (og : Nat) (pl : Nat) (sa : Nat) (no : Nat) (j0 : Nat) (j1 : Nat) (j2 : Nat) (j3 : Nat) (j4 : Nat) (j5 : Nat) (p1 : Int32) (p2 : Int32) : mI (S := mU) l yX10_had cX10_had 3 .int ({ frames := 1, cells := 0, slots := 0, locals := 21 }) D K [(h0, .inr (10, [.ref tp, .ref tr, .ref rr, .ref dr, .ref rs, .int 0, .ref nr, .ref nw, .ref im, .int 0, .ref ac, .ref co, .ref al, .ref ta, .ref ma, .ref ga, .ref og])), (nw, .inr (2, [.ref pl, .ref sa, .ref no, .int (-1), .int 0])), (pl, .inr (8, [.int 0, .int 0, .int 0, .int 0, .ref j0, .ref j1, .ref j2, .ref j3, .ref j4, .ref j5]))] [.ref h0, .int p1, .int p2] (fun r u => r = (-1)) (fun u => []) := by
  refine m_enterI (by decide) (Nat.le_of_ble_eq_true rfl) ?_
  intro p e s m args below meth c A ls E hr G hl
  have E : mE p s m meth c cX10_had args 3 RX10 D K A := E
  have hl : lv_has ls 3 [(0, .ref h0), (1, .int p1), (2, .int p2)] := hl
  obtain ⟨H, hH⟩ : ∃ H, H = s.heap := ⟨_, rfl⟩
  obtain ⟨locs, hlo⟩ : ∃ L : List Loc, L = [] := ⟨_, rfl⟩
  rw [← hH, ← hlo] at G
  rw [← hH, ← hlo]
  have G : mG D A s H locs [(h0, .inr (10, [.ref tp, .ref tr, .ref rr, .ref dr, .ref rs, .int 0, .ref nr, .ref nw, .ref im, .int 0, .ref ac, .ref co, .ref al, .ref ta, .ref ma, .ref ga, .ref og])), (nw, .inr (2, [.ref pl, .ref sa, .ref no, .int (-1), .int 0])), (pl, .inr (8, [.int 0, .int 0, .int 0, .int 0, .ref j0, .ref j1, .ref j2, .ref j3, .ref j4, .ref j5]))] := G
  clear hH hlo
  refine lv_aload_n E.1 E.2.1 dX10_had_0 rfl (lv_at hl 0 rfl) ?_
  refine lv_iload_n E.1 E.2.1 dX10_had_1 rfl (lv_at hl 1 rfl) ?_
  refine m_vi E G hl (k_hasWalker l D K h0 tp tr rr dr rs nr nw im ac co al ta ma ga og pl sa no j0 j1 j2 j3 j4 j5 p1) (wr := []) [0, 1, 2] [] rfl rfl (by decide) (by decide) (by decide) 0 (ci := 10) rfl rfl rfl 1 rfl mw_code_X10_hasWalker mw_ini_10 mw_ml_10_168 mw_inst_X10_hasWalker mw_sel_X10_hasWalker hd_X10_hasWalker ⟨by decide, by decide⟩ rfl (Nat.le_of_ble_eq_true rfl) ⟨by decide, by decide⟩ dX10_had_2 (fun r_2 u_1 H locs hp G => ?_)
  have G : mG D A s H locs [] := G
  subst hp
  refine lv_if_eq (tgt := 17) E.1 E.2.1 dX10_had_5 (by decide) (fun _ => ?_) (fun h => absurd (by decide) h)
  refine lv_iconst (v := (-1)) E.1 E.2.1 dX10_had_17 (by decide) ?_
  exact m_reti E G hr rfl (fun _ => 0, fun _ _ => 0, fun _ _ => none) rfl [] (by decide) rfl (by decide) (by decide) dX10_had_18
set_option maxHeartbeats 4000000 in
set_option maxRecDepth 100000 in
theorem k_first (l : Launch) (D : va_G) (K : Nat → ClassId) (h0 : Nat) (tp : Nat) (tr : Nat) (rr : Nat) (dr : Nat) (rs : Nat) (nr : Nat) (nw : Nat) (im : Nat) (ac : Nat) (co : Nat) (al : Nat) (ta : Nat) (ma : Nat) (ga : Nat) (og : Nat) (pl : Nat) (sa : Nat) (no : Nat) (j0 : Nat) (j1 : Nat) (j2 : Nat) (j3 : Nat) (j4 : Nat) (j5 : Nat) (p1 : Int32) : mI (S := mU) l yX10_first cX10_first 4 .int ({ frames := 1, cells := 0, slots := 0, locals := 20 }) D K [(h0, .inr (10, [.ref tp, .ref tr, .ref rr, .ref dr, .ref rs, .int 0, .ref nr, .ref nw, .ref im, .int 0, .ref ac, .ref co, .ref al, .ref ta, .ref ma, .ref ga, .ref og])), (nw, .inr (2, [.ref pl, .ref sa, .ref no, .int (-1), .int 0])), (pl, .inr (8, [.int 0, .int 0, .int 0, .int 0, .ref j0, .ref j1, .ref j2, .ref j3, .ref j4, .ref j5]))] [.ref h0, .int p1] (fun r u => r = (-1)) (fun u => []) := by
  refine m_enterI (by decide) (Nat.le_of_ble_eq_true rfl) ?_
  intro p e s m args below meth c A ls E hr G hl
  have E : mE p s m meth c cX10_first args 4 RX10 D K A := E
  have hl : lv_has ls 4 [(0, .ref h0), (1, .int p1)] := hl
  obtain ⟨H, hH⟩ : ∃ H, H = s.heap := ⟨_, rfl⟩
  obtain ⟨locs, hlo⟩ : ∃ L : List Loc, L = [] := ⟨_, rfl⟩
  rw [← hH, ← hlo] at G
  rw [← hH, ← hlo]
  have G : mG D A s H locs [(h0, .inr (10, [.ref tp, .ref tr, .ref rr, .ref dr, .ref rs, .int 0, .ref nr, .ref nw, .ref im, .int 0, .ref ac, .ref co, .ref al, .ref ta, .ref ma, .ref ga, .ref og])), (nw, .inr (2, [.ref pl, .ref sa, .ref no, .int (-1), .int 0])), (pl, .inr (8, [.int 0, .int 0, .int 0, .int 0, .ref j0, .ref j1, .ref j2, .ref j3, .ref j4, .ref j5]))] := G
  clear hH hlo
  refine lv_aload_n E.1 E.2.1 dX10_first_0 rfl (lv_at hl 0 rfl) ?_
  refine m_vi E G hl (k_hasTown l D K h0 tp tr rr dr rs nr nw im ac co al ta ma ga og pl sa no j0 j1 j2 j3 j4 j5) (wr := []) [0, 1, 2] [] rfl rfl (by decide) (by decide) (by decide) 0 (ci := 10) rfl rfl rfl 0 rfl mw_code_X10_hasTown mw_ini_10 mw_ml_10_219 mw_inst_X10_hasTown mw_sel_X10_hasTown hd_X10_hasTown ⟨by decide, by decide⟩ rfl (Nat.le_of_ble_eq_true rfl) ⟨by decide, by decide⟩ dX10_first_1 (fun r_2 u_1 H locs hp G => ?_)
  have G : mG D A s H locs [] := G
  subst hp
  refine lv_if_eq (tgt := 16) E.1 E.2.1 dX10_first_4 (by decide) (fun _ => ?_) (fun h => absurd (by decide) h)
  refine lv_iconst (v := (-1)) E.1 E.2.1 dX10_first_16 (by decide) ?_
  exact m_reti E G hr rfl (fun _ => 0, fun _ _ => 0, fun _ _ => none) rfl [] (by decide) rfl (by decide) (by decide) dX10_first_17
set_option maxHeartbeats 4000000 in
set_option maxRecDepth 100000 in
theorem k_far (l : Launch) (D : va_G) (K : Nat → ClassId) (h0 : Nat) (tp : Nat) (tr : Nat) (rr : Nat) (dr : Nat) (rs : Nat) (nr : Nat) (nw : Nat) (im : Nat) (ac : Nat) (co : Nat) (al : Nat) (ta : Nat) (ma : Nat) (ga : Nat) (og : Nat) (pl : Nat) (sa : Nat) (no : Nat) (j0 : Nat) (j1 : Nat) (j2 : Nat) (j3 : Nat) (j4 : Nat) (j5 : Nat) (p1 : Int32) : mI (S := mU) l yX10_far cX10_far 3 .int ({ frames := 1, cells := 0, slots := 0, locals := 21 }) D K [(h0, .inr (10, [.ref tp, .ref tr, .ref rr, .ref dr, .ref rs, .int 0, .ref nr, .ref nw, .ref im, .int 0, .ref ac, .ref co, .ref al, .ref ta, .ref ma, .ref ga, .ref og])), (nw, .inr (2, [.ref pl, .ref sa, .ref no, .int (-1), .int 0])), (pl, .inr (8, [.int 0, .int 0, .int 0, .int 0, .ref j0, .ref j1, .ref j2, .ref j3, .ref j4, .ref j5]))] [.ref h0, .int p1] (fun r u => r = (-1)) (fun u => []) := by
  refine m_enterI (by decide) (Nat.le_of_ble_eq_true rfl) ?_
  intro p e s m args below meth c A ls E hr G hl
  have E : mE p s m meth c cX10_far args 3 RX10 D K A := E
  have hl : lv_has ls 3 [(0, .ref h0), (1, .int p1)] := hl
  obtain ⟨H, hH⟩ : ∃ H, H = s.heap := ⟨_, rfl⟩
  obtain ⟨locs, hlo⟩ : ∃ L : List Loc, L = [] := ⟨_, rfl⟩
  rw [← hH, ← hlo] at G
  rw [← hH, ← hlo]
  have G : mG D A s H locs [(h0, .inr (10, [.ref tp, .ref tr, .ref rr, .ref dr, .ref rs, .int 0, .ref nr, .ref nw, .ref im, .int 0, .ref ac, .ref co, .ref al, .ref ta, .ref ma, .ref ga, .ref og])), (nw, .inr (2, [.ref pl, .ref sa, .ref no, .int (-1), .int 0])), (pl, .inr (8, [.int 0, .int 0, .int 0, .int 0, .ref j0, .ref j1, .ref j2, .ref j3, .ref j4, .ref j5]))] := G
  clear hH hlo
  refine lv_aload_n E.1 E.2.1 dX10_far_0 rfl (lv_at hl 0 rfl) ?_
  refine lv_iload_n E.1 E.2.1 dX10_far_1 rfl (lv_at hl 1 rfl) ?_
  refine m_vi E G hl (k_hasWalker l D K h0 tp tr rr dr rs nr nw im ac co al ta ma ga og pl sa no j0 j1 j2 j3 j4 j5 p1) (wr := []) [0, 1, 2] [] rfl rfl (by decide) (by decide) (by decide) 0 (ci := 10) rfl rfl rfl 1 rfl mw_code_X10_hasWalker mw_ini_10 mw_ml_10_168 mw_inst_X10_hasWalker mw_sel_X10_hasWalker hd_X10_hasWalker ⟨by decide, by decide⟩ rfl (Nat.le_of_ble_eq_true rfl) ⟨by decide, by decide⟩ dX10_far_2 (fun r_2 u_1 H locs hp G => ?_)
  have G : mG D A s H locs [] := G
  subst hp
  refine lv_if_ne (tgt := 10) E.1 E.2.1 dX10_far_5 (by decide) (fun h => absurd (by decide) h) (fun _ => ?_)
  refine lv_iconst (v := (-1)) E.1 E.2.1 dX10_far_8 (by decide) ?_
  exact m_reti E G hr rfl (fun _ => 0, fun _ _ => 0, fun _ _ => none) rfl [] (by decide) rfl (by decide) (by decide) dX10_far_9
set_option maxHeartbeats 4000000 in
set_option maxRecDepth 100000 in
theorem k_safe (l : Launch) (D : va_G) (K : Nat → ClassId) (h0 : Nat) (tp : Nat) (tr : Nat) (rr : Nat) (dr : Nat) (rs : Nat) (nr : Nat) (nw : Nat) (im : Nat) (ac : Nat) (co : Nat) (al : Nat) (ta : Nat) (ma : Nat) (ga : Nat) (og : Nat) (pl : Nat) (sa : Nat) (no : Nat) (j0 : Nat) (j1 : Nat) (j2 : Nat) (j3 : Nat) (j4 : Nat) (j5 : Nat) (p1 : Int32) : mI (S := mU) l yX10_safe cX10_safe 4 .int ({ frames := 1, cells := 0, slots := 0, locals := 21 }) D K [(h0, .inr (10, [.ref tp, .ref tr, .ref rr, .ref dr, .ref rs, .int 0, .ref nr, .ref nw, .ref im, .int 0, .ref ac, .ref co, .ref al, .ref ta, .ref ma, .ref ga, .ref og])), (nw, .inr (2, [.ref pl, .ref sa, .ref no, .int (-1), .int 0])), (pl, .inr (8, [.int 0, .int 0, .int 0, .int 0, .ref j0, .ref j1, .ref j2, .ref j3, .ref j4, .ref j5]))] [.ref h0, .int p1] (fun r u => r = (-1)) (fun u => []) := by
  refine m_enterI (by decide) (Nat.le_of_ble_eq_true rfl) ?_
  intro p e s m args below meth c A ls E hr G hl
  have E : mE p s m meth c cX10_safe args 4 RX10 D K A := E
  have hl : lv_has ls 4 [(0, .ref h0), (1, .int p1)] := hl
  obtain ⟨H, hH⟩ : ∃ H, H = s.heap := ⟨_, rfl⟩
  obtain ⟨locs, hlo⟩ : ∃ L : List Loc, L = [] := ⟨_, rfl⟩
  rw [← hH, ← hlo] at G
  rw [← hH, ← hlo]
  have G : mG D A s H locs [(h0, .inr (10, [.ref tp, .ref tr, .ref rr, .ref dr, .ref rs, .int 0, .ref nr, .ref nw, .ref im, .int 0, .ref ac, .ref co, .ref al, .ref ta, .ref ma, .ref ga, .ref og])), (nw, .inr (2, [.ref pl, .ref sa, .ref no, .int (-1), .int 0])), (pl, .inr (8, [.int 0, .int 0, .int 0, .int 0, .ref j0, .ref j1, .ref j2, .ref j3, .ref j4, .ref j5]))] := G
  clear hH hlo
  refine lv_aload_n E.1 E.2.1 dX10_safe_0 rfl (lv_at hl 0 rfl) ?_
  refine lv_iload_n E.1 E.2.1 dX10_safe_1 rfl (lv_at hl 1 rfl) ?_
  refine m_vi E G hl (k_hasWalker l D K h0 tp tr rr dr rs nr nw im ac co al ta ma ga og pl sa no j0 j1 j2 j3 j4 j5 p1) (wr := []) [0, 1, 2] [] rfl rfl (by decide) (by decide) (by decide) 0 (ci := 10) rfl rfl rfl 1 rfl mw_code_X10_hasWalker mw_ini_10 mw_ml_10_168 mw_inst_X10_hasWalker mw_sel_X10_hasWalker hd_X10_hasWalker ⟨by decide, by decide⟩ rfl (Nat.le_of_ble_eq_true rfl) ⟨by decide, by decide⟩ dX10_safe_2 (fun r_2 u_1 H locs hp G => ?_)
  have G : mG D A s H locs [] := G
  subst hp
  refine lv_if_ne (tgt := 10) E.1 E.2.1 dX10_safe_5 (by decide) (fun h => absurd (by decide) h) (fun _ => ?_)
  refine lv_iconst (v := (-1)) E.1 E.2.1 dX10_safe_8 (by decide) ?_
  exact m_reti E G hr rfl (fun _ => 0, fun _ _ => 0, fun _ _ => none) rfl [] (by decide) rfl (by decide) (by decide) dX10_safe_9
set_option maxHeartbeats 4000000 in
set_option maxRecDepth 100000 in
theorem k_stuck (l : Launch) (D : va_G) (K : Nat → ClassId) (h0 : Nat) (tp : Nat) (tr : Nat) (rr : Nat) (dr : Nat) (rs : Nat) (nr : Nat) (nw : Nat) (im : Nat) (ac : Nat) (co : Nat) (al : Nat) (ta : Nat) (ma : Nat) (ga : Nat) (og : Nat) (pl : Nat) (sa : Nat) (no : Nat) (j0 : Nat) (j1 : Nat) (j2 : Nat) (j3 : Nat) (j4 : Nat) (j5 : Nat) (p1 : Int32) : mI (S := mU) l yX10_stuck cX10_stuck 6 .int ({ frames := 1, cells := 0, slots := 0, locals := 21 }) D K [(h0, .inr (10, [.ref tp, .ref tr, .ref rr, .ref dr, .ref rs, .int 0, .ref nr, .ref nw, .ref im, .int 0, .ref ac, .ref co, .ref al, .ref ta, .ref ma, .ref ga, .ref og])), (nw, .inr (2, [.ref pl, .ref sa, .ref no, .int (-1), .int 0])), (pl, .inr (8, [.int 0, .int 0, .int 0, .int 0, .ref j0, .ref j1, .ref j2, .ref j3, .ref j4, .ref j5]))] [.ref h0, .int p1] (fun r u => r = (-1)) (fun u => []) := by
  refine m_enterI (by decide) (Nat.le_of_ble_eq_true rfl) ?_
  intro p e s m args below meth c A ls E hr G hl
  have E : mE p s m meth c cX10_stuck args 6 RX10 D K A := E
  have hl : lv_has ls 6 [(0, .ref h0), (1, .int p1)] := hl
  obtain ⟨H, hH⟩ : ∃ H, H = s.heap := ⟨_, rfl⟩
  obtain ⟨locs, hlo⟩ : ∃ L : List Loc, L = [] := ⟨_, rfl⟩
  rw [← hH, ← hlo] at G
  rw [← hH, ← hlo]
  have G : mG D A s H locs [(h0, .inr (10, [.ref tp, .ref tr, .ref rr, .ref dr, .ref rs, .int 0, .ref nr, .ref nw, .ref im, .int 0, .ref ac, .ref co, .ref al, .ref ta, .ref ma, .ref ga, .ref og])), (nw, .inr (2, [.ref pl, .ref sa, .ref no, .int (-1), .int 0])), (pl, .inr (8, [.int 0, .int 0, .int 0, .int 0, .ref j0, .ref j1, .ref j2, .ref j3, .ref j4, .ref j5]))] := G
  clear hH hlo
  refine lv_aload_n E.1 E.2.1 dX10_stuck_0 rfl (lv_at hl 0 rfl) ?_
  refine lv_iload_n E.1 E.2.1 dX10_stuck_1 rfl (lv_at hl 1 rfl) ?_
  refine m_vi E G hl (k_hasWalker l D K h0 tp tr rr dr rs nr nw im ac co al ta ma ga og pl sa no j0 j1 j2 j3 j4 j5 p1) (wr := []) [0, 1, 2] [] rfl rfl (by decide) (by decide) (by decide) 0 (ci := 10) rfl rfl rfl 1 rfl mw_code_X10_hasWalker mw_ini_10 mw_ml_10_168 mw_inst_X10_hasWalker mw_sel_X10_hasWalker hd_X10_hasWalker ⟨by decide, by decide⟩ rfl (Nat.le_of_ble_eq_true rfl) ⟨by decide, by decide⟩ dX10_stuck_2 (fun r_2 u_1 H locs hp G => ?_)
  have G : mG D A s H locs [] := G
  subst hp
  refine lv_if_ne (tgt := 10) E.1 E.2.1 dX10_stuck_5 (by decide) (fun h => absurd (by decide) h) (fun _ => ?_)
  refine lv_iconst (v := (-1)) E.1 E.2.1 dX10_stuck_8 (by decide) ?_
  exact m_reti E G hr rfl (fun _ => 0, fun _ _ => 0, fun _ _ => none) rfl [] (by decide) rfl (by decide) (by decide) dX10_stuck_9
set_option maxHeartbeats 4000000 in
set_option maxRecDepth 100000 in
theorem k_best (l : Launch) (D : va_G) (K : Nat → ClassId) (h0 : Nat) (tp : Nat) (tr : Nat) (rr : Nat) (dr : Nat) (rs : Nat) (nr : Nat) (nw : Nat) (im : Nat) (ac : Nat) (co : Nat) (al : Nat) (ta : Nat) (ma : Nat) (ga : Nat) (og : Nat) (pl : Nat) (sa : Nat) (no : Nat) (j0 : Nat) (j1 : Nat) (j2 : Nat) (j3 : Nat) (j4 : Nat) (j5 : Nat) (p1 : Int32) (p2 : Int32) (p3 : Int32) : mI (S := mU) l yX10_best cX10_best 4 .int ({ frames := 2, cells := 0, slots := 0, locals := 42 }) D K [(h0, .inr (10, [.ref tp, .ref tr, .ref rr, .ref dr, .ref rs, .int 0, .ref nr, .ref nw, .ref im, .int 0, .ref ac, .ref co, .ref al, .ref ta, .ref ma, .ref ga, .ref og])), (nw, .inr (2, [.ref pl, .ref sa, .ref no, .int (-1), .int 0])), (pl, .inr (8, [.int 0, .int 0, .int 0, .int 0, .ref j0, .ref j1, .ref j2, .ref j3, .ref j4, .ref j5]))] [.ref h0, .int p1, .int p2, .int p3] (fun r u => r = (-1)) (fun u => []) := by
  refine m_enterI (by decide) (Nat.le_of_ble_eq_true rfl) ?_
  intro p e s m args below meth c A ls E hr G hl
  have E : mE p s m meth c cX10_best args 4 RX10 D K A := E
  have hl : lv_has ls 4 [(0, .ref h0), (1, .int p1), (2, .int p2), (3, .int p3)] := hl
  obtain ⟨H, hH⟩ : ∃ H, H = s.heap := ⟨_, rfl⟩
  obtain ⟨locs, hlo⟩ : ∃ L : List Loc, L = [] := ⟨_, rfl⟩
  rw [← hH, ← hlo] at G
  rw [← hH, ← hlo]
  have G : mG D A s H locs [(h0, .inr (10, [.ref tp, .ref tr, .ref rr, .ref dr, .ref rs, .int 0, .ref nr, .ref nw, .ref im, .int 0, .ref ac, .ref co, .ref al, .ref ta, .ref ma, .ref ga, .ref og])), (nw, .inr (2, [.ref pl, .ref sa, .ref no, .int (-1), .int 0])), (pl, .inr (8, [.int 0, .int 0, .int 0, .int 0, .ref j0, .ref j1, .ref j2, .ref j3, .ref j4, .ref j5]))] := G
  clear hH hlo
  refine lv_aload_n E.1 E.2.1 dX10_best_0 rfl (lv_at hl 0 rfl) ?_
  refine lv_iload_n E.1 E.2.1 dX10_best_1 rfl (lv_at hl 1 rfl) ?_
  refine m_vi E G hl (k_hasSetLure l D K h0 tp tr rr dr rs nr nw im ac co al ta ma ga og pl sa no j0 j1 j2 j3 j4 j5 p1) (wr := []) [0, 1, 2] [] rfl rfl (by decide) (by decide) (by decide) 0 (ci := 10) rfl rfl rfl 1 rfl mw_code_X10_hasSetLure mw_ini_10 mw_ml_10_236 mw_inst_X10_hasSetLure mw_sel_X10_hasSetLure hd_X10_hasSetLure ⟨by decide, by decide⟩ rfl (Nat.le_of_ble_eq_true rfl) ⟨by decide, by decide⟩ dX10_best_2 (fun r_2 u_1 H locs hp G => ?_)
  have G : mG D A s H locs [] := G
  subst hp
  refine lv_if_eq (tgt := 28) E.1 E.2.1 dX10_best_5 (by decide) (fun _ => ?_) (fun h => absurd (by decide) h)
  refine lv_iconst (v := (-1)) E.1 E.2.1 dX10_best_28 (by decide) ?_
  exact m_reti E G hr rfl (fun _ => 0, fun _ _ => 0, fun _ _ => none) rfl [] (by decide) rfl (by decide) (by decide) dX10_best_29
set_option maxHeartbeats 4000000 in
set_option maxRecDepth 100000 in
theorem k_kind (l : Launch) (D : va_G) (K : Nat → ClassId) (h0 : Nat) (tp : Nat) (tr : Nat) (rr : Nat) (dr : Nat) (rs : Nat) (nr : Nat) (nw : Nat) (im : Nat) (ac : Nat) (co : Nat) (al : Nat) (ta : Nat) (ma : Nat) (ga : Nat) (og : Nat) (pl : Nat) (sa : Nat) (no : Nat) (j0 : Nat) (j1 : Nat) (j2 : Nat) (j3 : Nat) (j4 : Nat) (j5 : Nat) (p1 : Int32) (p2 : Int32) (p3 : Int32) : mI (S := mU) l yX10_kind cX10_kind 4 .int ({ frames := 2, cells := 0, slots := 0, locals := 42 }) D K [(h0, .inr (10, [.ref tp, .ref tr, .ref rr, .ref dr, .ref rs, .int 0, .ref nr, .ref nw, .ref im, .int 0, .ref ac, .ref co, .ref al, .ref ta, .ref ma, .ref ga, .ref og])), (nw, .inr (2, [.ref pl, .ref sa, .ref no, .int (-1), .int 0])), (pl, .inr (8, [.int 0, .int 0, .int 0, .int 0, .ref j0, .ref j1, .ref j2, .ref j3, .ref j4, .ref j5]))] [.ref h0, .int p1, .int p2, .int p3] (fun r u => r = (-1)) (fun u => []) := by
  refine m_enterI (by decide) (Nat.le_of_ble_eq_true rfl) ?_
  intro p e s m args below meth c A ls E hr G hl
  have E : mE p s m meth c cX10_kind args 4 RX10 D K A := E
  have hl : lv_has ls 4 [(0, .ref h0), (1, .int p1), (2, .int p2), (3, .int p3)] := hl
  obtain ⟨H, hH⟩ : ∃ H, H = s.heap := ⟨_, rfl⟩
  obtain ⟨locs, hlo⟩ : ∃ L : List Loc, L = [] := ⟨_, rfl⟩
  rw [← hH, ← hlo] at G
  rw [← hH, ← hlo]
  have G : mG D A s H locs [(h0, .inr (10, [.ref tp, .ref tr, .ref rr, .ref dr, .ref rs, .int 0, .ref nr, .ref nw, .ref im, .int 0, .ref ac, .ref co, .ref al, .ref ta, .ref ma, .ref ga, .ref og])), (nw, .inr (2, [.ref pl, .ref sa, .ref no, .int (-1), .int 0])), (pl, .inr (8, [.int 0, .int 0, .int 0, .int 0, .ref j0, .ref j1, .ref j2, .ref j3, .ref j4, .ref j5]))] := G
  clear hH hlo
  refine lv_aload_n E.1 E.2.1 dX10_kind_0 rfl (lv_at hl 0 rfl) ?_
  refine lv_iload_n E.1 E.2.1 dX10_kind_1 rfl (lv_at hl 1 rfl) ?_
  refine m_vi E G hl (k_hasSetLure l D K h0 tp tr rr dr rs nr nw im ac co al ta ma ga og pl sa no j0 j1 j2 j3 j4 j5 p1) (wr := []) [0, 1, 2] [] rfl rfl (by decide) (by decide) (by decide) 0 (ci := 10) rfl rfl rfl 1 rfl mw_code_X10_hasSetLure mw_ini_10 mw_ml_10_236 mw_inst_X10_hasSetLure mw_sel_X10_hasSetLure hd_X10_hasSetLure ⟨by decide, by decide⟩ rfl (Nat.le_of_ble_eq_true rfl) ⟨by decide, by decide⟩ dX10_kind_2 (fun r_2 u_1 H locs hp G => ?_)
  have G : mG D A s H locs [] := G
  subst hp
  refine lv_if_eq (tgt := 28) E.1 E.2.1 dX10_kind_5 (by decide) (fun _ => ?_) (fun h => absurd (by decide) h)
  refine lv_iconst (v := (-1)) E.1 E.2.1 dX10_kind_28 (by decide) ?_
  exact m_reti E G hr rfl (fun _ => 0, fun _ _ => 0, fun _ _ => none) rfl [] (by decide) rfl (by decide) (by decide) dX10_kind_29
set_option maxHeartbeats 4000000 in
set_option maxRecDepth 100000 in
theorem k_cover (l : Launch) (D : va_G) (K : Nat → ClassId) (h0 : Nat) (tp : Nat) (tr : Nat) (rr : Nat) (dr : Nat) (rs : Nat) (nr : Nat) (nw : Nat) (im : Nat) (ac : Nat) (co : Nat) (al : Nat) (ta : Nat) (ma : Nat) (ga : Nat) (og : Nat) (pl : Nat) (sa : Nat) (no : Nat) (j0 : Nat) (j1 : Nat) (j2 : Nat) (j3 : Nat) (j4 : Nat) (j5 : Nat) (p1 : Int32) : mI (S := mU) l yX10_cover cX10_cover 5 .int ({ frames := 1, cells := 0, slots := 0, locals := 20 }) D K [(h0, .inr (10, [.ref tp, .ref tr, .ref rr, .ref dr, .ref rs, .int 0, .ref nr, .ref nw, .ref im, .int 0, .ref ac, .ref co, .ref al, .ref ta, .ref ma, .ref ga, .ref og])), (nw, .inr (2, [.ref pl, .ref sa, .ref no, .int (-1), .int 0])), (pl, .inr (8, [.int 0, .int 0, .int 0, .int 0, .ref j0, .ref j1, .ref j2, .ref j3, .ref j4, .ref j5]))] [.ref h0, .int p1] (fun r u => r = (-1)) (fun u => []) := by
  refine m_enterI (by decide) (Nat.le_of_ble_eq_true rfl) ?_
  intro p e s m args below meth c A ls E hr G hl
  have E : mE p s m meth c cX10_cover args 5 RX10 D K A := E
  have hl : lv_has ls 5 [(0, .ref h0), (1, .int p1)] := hl
  obtain ⟨H, hH⟩ : ∃ H, H = s.heap := ⟨_, rfl⟩
  obtain ⟨locs, hlo⟩ : ∃ L : List Loc, L = [] := ⟨_, rfl⟩
  rw [← hH, ← hlo] at G
  rw [← hH, ← hlo]
  have G : mG D A s H locs [(h0, .inr (10, [.ref tp, .ref tr, .ref rr, .ref dr, .ref rs, .int 0, .ref nr, .ref nw, .ref im, .int 0, .ref ac, .ref co, .ref al, .ref ta, .ref ma, .ref ga, .ref og])), (nw, .inr (2, [.ref pl, .ref sa, .ref no, .int (-1), .int 0])), (pl, .inr (8, [.int 0, .int 0, .int 0, .int 0, .ref j0, .ref j1, .ref j2, .ref j3, .ref j4, .ref j5]))] := G
  clear hH hlo
  refine lv_aload_n E.1 E.2.1 dX10_cover_0 rfl (lv_at hl 0 rfl) ?_
  refine m_vi E G hl (k_hasTown l D K h0 tp tr rr dr rs nr nw im ac co al ta ma ga og pl sa no j0 j1 j2 j3 j4 j5) (wr := []) [0, 1, 2] [] rfl rfl (by decide) (by decide) (by decide) 0 (ci := 10) rfl rfl rfl 0 rfl mw_code_X10_hasTown mw_ini_10 mw_ml_10_219 mw_inst_X10_hasTown mw_sel_X10_hasTown hd_X10_hasTown ⟨by decide, by decide⟩ rfl (Nat.le_of_ble_eq_true rfl) ⟨by decide, by decide⟩ dX10_cover_1 (fun r_2 u_1 H locs hp G => ?_)
  have G : mG D A s H locs [] := G
  subst hp
  refine lv_if_eq (tgt := 16) E.1 E.2.1 dX10_cover_4 (by decide) (fun _ => ?_) (fun h => absurd (by decide) h)
  refine lv_iconst (v := (-1)) E.1 E.2.1 dX10_cover_16 (by decide) ?_
  exact m_reti E G hr rfl (fun _ => 0, fun _ _ => 0, fun _ _ => none) rfl [] (by decide) rfl (by decide) (by decide) dX10_cover_17
set_option maxHeartbeats 4000000 in
set_option maxRecDepth 100000 in
theorem k_hearts (l : Launch) (D : va_G) (K : Nat → ClassId) (h0 : Nat) (tp : Nat) (tr : Nat) (rr : Nat) (dr : Nat) (rs : Nat) (nr : Nat) (nw : Nat) (im : Nat) (ac : Nat) (co : Nat) (al : Nat) (ta : Nat) (ma : Nat) (ga : Nat) (og : Nat) (pl : Nat) (sa : Nat) (no : Nat) (j0 : Nat) (j1 : Nat) (j2 : Nat) (j3 : Nat) (j4 : Nat) (j5 : Nat) (p1 : Int32) : mI (S := mU) l yX10_hearts cX10_hearts 2 .int ({ frames := 1, cells := 0, slots := 0, locals := 21 }) D K [(h0, .inr (10, [.ref tp, .ref tr, .ref rr, .ref dr, .ref rs, .int 0, .ref nr, .ref nw, .ref im, .int 0, .ref ac, .ref co, .ref al, .ref ta, .ref ma, .ref ga, .ref og])), (nw, .inr (2, [.ref pl, .ref sa, .ref no, .int (-1), .int 0])), (pl, .inr (8, [.int 0, .int 0, .int 0, .int 0, .ref j0, .ref j1, .ref j2, .ref j3, .ref j4, .ref j5]))] [.ref h0, .int p1] (fun r u => r = (-1)) (fun u => []) := by
  refine m_enterI (by decide) (Nat.le_of_ble_eq_true rfl) ?_
  intro p e s m args below meth c A ls E hr G hl
  have E : mE p s m meth c cX10_hearts args 2 RX10 D K A := E
  have hl : lv_has ls 2 [(0, .ref h0), (1, .int p1)] := hl
  obtain ⟨H, hH⟩ : ∃ H, H = s.heap := ⟨_, rfl⟩
  obtain ⟨locs, hlo⟩ : ∃ L : List Loc, L = [] := ⟨_, rfl⟩
  rw [← hH, ← hlo] at G
  rw [← hH, ← hlo]
  have G : mG D A s H locs [(h0, .inr (10, [.ref tp, .ref tr, .ref rr, .ref dr, .ref rs, .int 0, .ref nr, .ref nw, .ref im, .int 0, .ref ac, .ref co, .ref al, .ref ta, .ref ma, .ref ga, .ref og])), (nw, .inr (2, [.ref pl, .ref sa, .ref no, .int (-1), .int 0])), (pl, .inr (8, [.int 0, .int 0, .int 0, .int 0, .ref j0, .ref j1, .ref j2, .ref j3, .ref j4, .ref j5]))] := G
  clear hH hlo
  refine lv_aload_n E.1 E.2.1 dX10_hearts_0 rfl (lv_at hl 0 rfl) ?_
  refine lv_iload_n E.1 E.2.1 dX10_hearts_1 rfl (lv_at hl 1 rfl) ?_
  refine m_vi E G hl (k_hasWalker l D K h0 tp tr rr dr rs nr nw im ac co al ta ma ga og pl sa no j0 j1 j2 j3 j4 j5 p1) (wr := []) [0, 1, 2] [] rfl rfl (by decide) (by decide) (by decide) 0 (ci := 10) rfl rfl rfl 1 rfl mw_code_X10_hasWalker mw_ini_10 mw_ml_10_168 mw_inst_X10_hasWalker mw_sel_X10_hasWalker hd_X10_hasWalker ⟨by decide, by decide⟩ rfl (Nat.le_of_ble_eq_true rfl) ⟨by decide, by decide⟩ dX10_hearts_2 (fun r_2 u_1 H locs hp G => ?_)
  have G : mG D A s H locs [] := G
  subst hp
  refine lv_if_eq (tgt := 25) E.1 E.2.1 dX10_hearts_5 (by decide) (fun _ => ?_) (fun h => absurd (by decide) h)
  refine lv_iconst (v := (-1)) E.1 E.2.1 dX10_hearts_25 (by decide) ?_
  exact m_reti E G hr rfl (fun _ => 0, fun _ _ => 0, fun _ _ => none) rfl [] (by decide) rfl (by decide) (by decide) dX10_hearts_26
set_option maxHeartbeats 4000000 in
set_option maxRecDepth 100000 in
theorem k_waries (l : Launch) (D : va_G) (K : Nat → ClassId) (h0 : Nat) (tp : Nat) (tr : Nat) (rr : Nat) (dr : Nat) (rs : Nat) (nr : Nat) (nw : Nat) (im : Nat) (ac : Nat) (co : Nat) (al : Nat) (ta : Nat) (ma : Nat) (ga : Nat) (og : Nat) (pl : Nat) (sa : Nat) (no : Nat) (j0 : Nat) (j1 : Nat) (j2 : Nat) (j3 : Nat) (j4 : Nat) (j5 : Nat) (p1 : Int32) : mI (S := mU) l yX10_waries cX10_waries 2 .int ({ frames := 1, cells := 0, slots := 0, locals := 21 }) D K [(h0, .inr (10, [.ref tp, .ref tr, .ref rr, .ref dr, .ref rs, .int 0, .ref nr, .ref nw, .ref im, .int 0, .ref ac, .ref co, .ref al, .ref ta, .ref ma, .ref ga, .ref og])), (nw, .inr (2, [.ref pl, .ref sa, .ref no, .int (-1), .int 0])), (pl, .inr (8, [.int 0, .int 0, .int 0, .int 0, .ref j0, .ref j1, .ref j2, .ref j3, .ref j4, .ref j5]))] [.ref h0, .int p1] (fun r u => r = (-1)) (fun u => []) := by
  refine m_enterI (by decide) (Nat.le_of_ble_eq_true rfl) ?_
  intro p e s m args below meth c A ls E hr G hl
  have E : mE p s m meth c cX10_waries args 2 RX10 D K A := E
  have hl : lv_has ls 2 [(0, .ref h0), (1, .int p1)] := hl
  obtain ⟨H, hH⟩ : ∃ H, H = s.heap := ⟨_, rfl⟩
  obtain ⟨locs, hlo⟩ : ∃ L : List Loc, L = [] := ⟨_, rfl⟩
  rw [← hH, ← hlo] at G
  rw [← hH, ← hlo]
  have G : mG D A s H locs [(h0, .inr (10, [.ref tp, .ref tr, .ref rr, .ref dr, .ref rs, .int 0, .ref nr, .ref nw, .ref im, .int 0, .ref ac, .ref co, .ref al, .ref ta, .ref ma, .ref ga, .ref og])), (nw, .inr (2, [.ref pl, .ref sa, .ref no, .int (-1), .int 0])), (pl, .inr (8, [.int 0, .int 0, .int 0, .int 0, .ref j0, .ref j1, .ref j2, .ref j3, .ref j4, .ref j5]))] := G
  clear hH hlo
  refine lv_aload_n E.1 E.2.1 dX10_waries_0 rfl (lv_at hl 0 rfl) ?_
  refine lv_iload_n E.1 E.2.1 dX10_waries_1 rfl (lv_at hl 1 rfl) ?_
  refine m_vi E G hl (k_hasWalker l D K h0 tp tr rr dr rs nr nw im ac co al ta ma ga og pl sa no j0 j1 j2 j3 j4 j5 p1) (wr := []) [0, 1, 2] [] rfl rfl (by decide) (by decide) (by decide) 0 (ci := 10) rfl rfl rfl 1 rfl mw_code_X10_hasWalker mw_ini_10 mw_ml_10_168 mw_inst_X10_hasWalker mw_sel_X10_hasWalker hd_X10_hasWalker ⟨by decide, by decide⟩ rfl (Nat.le_of_ble_eq_true rfl) ⟨by decide, by decide⟩ dX10_waries_2 (fun r_2 u_1 H locs hp G => ?_)
  have G : mG D A s H locs [] := G
  subst hp
  refine lv_if_eq (tgt := 25) E.1 E.2.1 dX10_waries_5 (by decide) (fun _ => ?_) (fun h => absurd (by decide) h)
  refine lv_iconst (v := (-1)) E.1 E.2.1 dX10_waries_25 (by decide) ?_
  exact m_reti E G hr rfl (fun _ => 0, fun _ _ => 0, fun _ _ => none) rfl [] (by decide) rfl (by decide) (by decide) dX10_waries_26
set_option maxHeartbeats 4000000 in
set_option maxRecDepth 100000 in
theorem k_rests (l : Launch) (D : va_G) (K : Nat → ClassId) (h0 : Nat) (tp : Nat) (tr : Nat) (rr : Nat) (dr : Nat) (rs : Nat) (nr : Nat) (nw : Nat) (im : Nat) (ac : Nat) (co : Nat) (al : Nat) (ta : Nat) (ma : Nat) (ga : Nat) (og : Nat) (pl : Nat) (sa : Nat) (no : Nat) (j0 : Nat) (j1 : Nat) (j2 : Nat) (j3 : Nat) (j4 : Nat) (j5 : Nat) (p1 : Int32) (p2 : Int32) (p3 : Int32) (p4 : Int32) : mI (S := mU) l yX10_rests cX10_rests 8 .int ({ frames := 2, cells := 0, slots := 0, locals := 42 }) D K [(h0, .inr (10, [.ref tp, .ref tr, .ref rr, .ref dr, .ref rs, .int 0, .ref nr, .ref nw, .ref im, .int 0, .ref ac, .ref co, .ref al, .ref ta, .ref ma, .ref ga, .ref og])), (nw, .inr (2, [.ref pl, .ref sa, .ref no, .int (-1), .int 0])), (pl, .inr (8, [.int 0, .int 0, .int 0, .int 0, .ref j0, .ref j1, .ref j2, .ref j3, .ref j4, .ref j5]))] [.ref h0, .int p1, .int p2, .int p3, .int p4] (fun r u => r = (-1)) (fun u => []) := by
  refine m_enterI (by decide) (Nat.le_of_ble_eq_true rfl) ?_
  intro p e s m args below meth c A ls E hr G hl
  have E : mE p s m meth c cX10_rests args 8 RX10 D K A := E
  have hl : lv_has ls 8 [(0, .ref h0), (1, .int p1), (2, .int p2), (3, .int p3), (4, .int p4)] := hl
  obtain ⟨H, hH⟩ : ∃ H, H = s.heap := ⟨_, rfl⟩
  obtain ⟨locs, hlo⟩ : ∃ L : List Loc, L = [] := ⟨_, rfl⟩
  rw [← hH, ← hlo] at G
  rw [← hH, ← hlo]
  have G : mG D A s H locs [(h0, .inr (10, [.ref tp, .ref tr, .ref rr, .ref dr, .ref rs, .int 0, .ref nr, .ref nw, .ref im, .int 0, .ref ac, .ref co, .ref al, .ref ta, .ref ma, .ref ga, .ref og])), (nw, .inr (2, [.ref pl, .ref sa, .ref no, .int (-1), .int 0])), (pl, .inr (8, [.int 0, .int 0, .int 0, .int 0, .ref j0, .ref j1, .ref j2, .ref j3, .ref j4, .ref j5]))] := G
  clear hH hlo
  refine lv_aload_n E.1 E.2.1 dX10_rests_0 rfl (lv_at hl 0 rfl) ?_
  refine lv_iload_n E.1 E.2.1 dX10_rests_1 rfl (lv_at hl 1 rfl) ?_
  refine m_vi E G hl (k_hasSetLure l D K h0 tp tr rr dr rs nr nw im ac co al ta ma ga og pl sa no j0 j1 j2 j3 j4 j5 p1) (wr := []) [0, 1, 2] [] rfl rfl (by decide) (by decide) (by decide) 0 (ci := 10) rfl rfl rfl 1 rfl mw_code_X10_hasSetLure mw_ini_10 mw_ml_10_236 mw_inst_X10_hasSetLure mw_sel_X10_hasSetLure hd_X10_hasSetLure ⟨by decide, by decide⟩ rfl (Nat.le_of_ble_eq_true rfl) ⟨by decide, by decide⟩ dX10_rests_2 (fun r_2 u_1 H locs hp G => ?_)
  have G : mG D A s H locs [] := G
  subst hp
  refine lv_if_eq (tgt := 21) E.1 E.2.1 dX10_rests_5 (by decide) (fun _ => ?_) (fun h => absurd (by decide) h)
  refine lv_iconst (v := (-1)) E.1 E.2.1 dX10_rests_21 (by decide) ?_
  exact m_reti E G hr rfl (fun _ => 0, fun _ _ => 0, fun _ _ => none) rfl [] (by decide) rfl (by decide) (by decide) dX10_rests_22
set_option maxHeartbeats 4000000 in
set_option maxRecDepth 100000 in
theorem k_ring (l : Launch) (D : va_G) (K : Nat → ClassId) (h0 : Nat) (tp : Nat) (tr : Nat) (rr : Nat) (dr : Nat) (rs : Nat) (nr : Nat) (nw : Nat) (im : Nat) (ac : Nat) (co : Nat) (al : Nat) (ta : Nat) (ma : Nat) (ga : Nat) (og : Nat) (pl : Nat) (sa : Nat) (no : Nat) (j0 : Nat) (j1 : Nat) (j2 : Nat) (j3 : Nat) (j4 : Nat) (j5 : Nat) (p1 : Int32) : mI (S := mU) l yX10_ring cX10_ring 4 .int ({ frames := 1, cells := 0, slots := 0, locals := 20 }) D K [(h0, .inr (10, [.ref tp, .ref tr, .ref rr, .ref dr, .ref rs, .int 0, .ref nr, .ref nw, .ref im, .int 0, .ref ac, .ref co, .ref al, .ref ta, .ref ma, .ref ga, .ref og])), (nw, .inr (2, [.ref pl, .ref sa, .ref no, .int (-1), .int 0])), (pl, .inr (8, [.int 0, .int 0, .int 0, .int 0, .ref j0, .ref j1, .ref j2, .ref j3, .ref j4, .ref j5]))] [.ref h0, .int p1] (fun r u => r = (-1)) (fun u => []) := by
  refine m_enterI (by decide) (Nat.le_of_ble_eq_true rfl) ?_
  intro p e s m args below meth c A ls E hr G hl
  have E : mE p s m meth c cX10_ring args 4 RX10 D K A := E
  have hl : lv_has ls 4 [(0, .ref h0), (1, .int p1)] := hl
  obtain ⟨H, hH⟩ : ∃ H, H = s.heap := ⟨_, rfl⟩
  obtain ⟨locs, hlo⟩ : ∃ L : List Loc, L = [] := ⟨_, rfl⟩
  rw [← hH, ← hlo] at G
  rw [← hH, ← hlo]
  have G : mG D A s H locs [(h0, .inr (10, [.ref tp, .ref tr, .ref rr, .ref dr, .ref rs, .int 0, .ref nr, .ref nw, .ref im, .int 0, .ref ac, .ref co, .ref al, .ref ta, .ref ma, .ref ga, .ref og])), (nw, .inr (2, [.ref pl, .ref sa, .ref no, .int (-1), .int 0])), (pl, .inr (8, [.int 0, .int 0, .int 0, .int 0, .ref j0, .ref j1, .ref j2, .ref j3, .ref j4, .ref j5]))] := G
  clear hH hlo
  refine lv_aload_n E.1 E.2.1 dX10_ring_0 rfl (lv_at hl 0 rfl) ?_
  refine m_vi E G hl (k_hasTown l D K h0 tp tr rr dr rs nr nw im ac co al ta ma ga og pl sa no j0 j1 j2 j3 j4 j5) (wr := []) [0, 1, 2] [] rfl rfl (by decide) (by decide) (by decide) 0 (ci := 10) rfl rfl rfl 0 rfl mw_code_X10_hasTown mw_ini_10 mw_ml_10_219 mw_inst_X10_hasTown mw_sel_X10_hasTown hd_X10_hasTown ⟨by decide, by decide⟩ rfl (Nat.le_of_ble_eq_true rfl) ⟨by decide, by decide⟩ dX10_ring_1 (fun r_2 u_1 H locs hp G => ?_)
  have G : mG D A s H locs [] := G
  subst hp
  refine lv_if_eq (tgt := 16) E.1 E.2.1 dX10_ring_4 (by decide) (fun _ => ?_) (fun h => absurd (by decide) h)
  refine lv_iconst (v := (-1)) E.1 E.2.1 dX10_ring_16 (by decide) ?_
  exact m_reti E G hr rfl (fun _ => 0, fun _ _ => 0, fun _ _ => none) rfl [] (by decide) rfl (by decide) (by decide) dX10_ring_17
set_option maxHeartbeats 4000000 in
set_option maxRecDepth 100000 in
theorem k_pence (l : Launch) (D : va_G) (K : Nat → ClassId) (h0 : Nat) (tp : Nat) (tr : Nat) (rr : Nat) (dr : Nat) (rs : Nat) (nr : Nat) (nw : Nat) (im : Nat) (ac : Nat) (co : Nat) (al : Nat) (ta : Nat) (ma : Nat) (ga : Nat) (og : Nat) (pl : Nat) (sa : Nat) (no : Nat) (j0 : Nat) (j1 : Nat) (j2 : Nat) (j3 : Nat) (j4 : Nat) (j5 : Nat) (p1 : Int32) (p2 : Int32) : mI (S := mU) l yX10_pence cX10_pence 9 .int ({ frames := 1, cells := 0, slots := 0, locals := 21 }) D K [(h0, .inr (10, [.ref tp, .ref tr, .ref rr, .ref dr, .ref rs, .int 0, .ref nr, .ref nw, .ref im, .int 0, .ref ac, .ref co, .ref al, .ref ta, .ref ma, .ref ga, .ref og])), (nw, .inr (2, [.ref pl, .ref sa, .ref no, .int (-1), .int 0])), (pl, .inr (8, [.int 0, .int 0, .int 0, .int 0, .ref j0, .ref j1, .ref j2, .ref j3, .ref j4, .ref j5]))] [.ref h0, .int p1, .int p2] (fun r u => r = (-1)) (fun u => []) := by
  refine m_enterI (by decide) (Nat.le_of_ble_eq_true rfl) ?_
  intro p e s m args below meth c A ls E hr G hl
  have E : mE p s m meth c cX10_pence args 9 RX10 D K A := E
  have hl : lv_has ls 9 [(0, .ref h0), (1, .int p1), (2, .int p2)] := hl
  obtain ⟨H, hH⟩ : ∃ H, H = s.heap := ⟨_, rfl⟩
  obtain ⟨locs, hlo⟩ : ∃ L : List Loc, L = [] := ⟨_, rfl⟩
  rw [← hH, ← hlo] at G
  rw [← hH, ← hlo]
  have G : mG D A s H locs [(h0, .inr (10, [.ref tp, .ref tr, .ref rr, .ref dr, .ref rs, .int 0, .ref nr, .ref nw, .ref im, .int 0, .ref ac, .ref co, .ref al, .ref ta, .ref ma, .ref ga, .ref og])), (nw, .inr (2, [.ref pl, .ref sa, .ref no, .int (-1), .int 0])), (pl, .inr (8, [.int 0, .int 0, .int 0, .int 0, .ref j0, .ref j1, .ref j2, .ref j3, .ref j4, .ref j5]))] := G
  clear hH hlo
  refine lv_aload_n E.1 E.2.1 dX10_pence_0 rfl (lv_at hl 0 rfl) ?_
  refine lv_iload_n E.1 E.2.1 dX10_pence_1 rfl (lv_at hl 2 rfl) ?_
  refine m_vi E G hl (k_hasWalker l D K h0 tp tr rr dr rs nr nw im ac co al ta ma ga og pl sa no j0 j1 j2 j3 j4 j5 p2) (wr := []) [0, 1, 2] [] rfl rfl (by decide) (by decide) (by decide) 0 (ci := 10) rfl rfl rfl 1 rfl mw_code_X10_hasWalker mw_ini_10 mw_ml_10_168 mw_inst_X10_hasWalker mw_sel_X10_hasWalker hd_X10_hasWalker ⟨by decide, by decide⟩ rfl (Nat.le_of_ble_eq_true rfl) ⟨by decide, by decide⟩ dX10_pence_2 (fun r_2 u_1 H locs hp G => ?_)
  have G : mG D A s H locs [] := G
  subst hp
  refine lv_if_eq (tgt := 19) E.1 E.2.1 dX10_pence_5 (by decide) (fun _ => ?_) (fun h => absurd (by decide) h)
  refine lv_iconst (v := (-1)) E.1 E.2.1 dX10_pence_19 (by decide) ?_
  exact m_reti E G hr rfl (fun _ => 0, fun _ _ => 0, fun _ _ => none) rfl [] (by decide) rfl (by decide) (by decide) dX10_pence_20
set_option maxHeartbeats 4000000 in
set_option maxRecDepth 100000 in
theorem k_ruled (l : Launch) (D : va_G) (K : Nat → ClassId) (h0 : Nat) (tp : Nat) (tr : Nat) (rr : Nat) (dr : Nat) (rs : Nat) (nr : Nat) (nw : Nat) (im : Nat) (ac : Nat) (co : Nat) (al : Nat) (ta : Nat) (ma : Nat) (ga : Nat) (og : Nat) (pl : Nat) (sa : Nat) (no : Nat) (j0 : Nat) (j1 : Nat) (j2 : Nat) (j3 : Nat) (j4 : Nat) (j5 : Nat) (p1 : Int32) : mI (S := mU) l yX10_ruled cX10_ruled 5 .int ({ frames := 1, cells := 0, slots := 0, locals := 20 }) D K [(h0, .inr (10, [.ref tp, .ref tr, .ref rr, .ref dr, .ref rs, .int 0, .ref nr, .ref nw, .ref im, .int 0, .ref ac, .ref co, .ref al, .ref ta, .ref ma, .ref ga, .ref og])), (nw, .inr (2, [.ref pl, .ref sa, .ref no, .int (-1), .int 0])), (pl, .inr (8, [.int 0, .int 0, .int 0, .int 0, .ref j0, .ref j1, .ref j2, .ref j3, .ref j4, .ref j5]))] [.ref h0, .int p1] (fun r u => r = (-3)) (fun u => []) := by
  refine m_enterI (by decide) (Nat.le_of_ble_eq_true rfl) ?_
  intro p e s m args below meth c A ls E hr G hl
  have E : mE p s m meth c cX10_ruled args 5 RX10 D K A := E
  have hl : lv_has ls 5 [(0, .ref h0), (1, .int p1)] := hl
  obtain ⟨H, hH⟩ : ∃ H, H = s.heap := ⟨_, rfl⟩
  obtain ⟨locs, hlo⟩ : ∃ L : List Loc, L = [] := ⟨_, rfl⟩
  rw [← hH, ← hlo] at G
  rw [← hH, ← hlo]
  have G : mG D A s H locs [(h0, .inr (10, [.ref tp, .ref tr, .ref rr, .ref dr, .ref rs, .int 0, .ref nr, .ref nw, .ref im, .int 0, .ref ac, .ref co, .ref al, .ref ta, .ref ma, .ref ga, .ref og])), (nw, .inr (2, [.ref pl, .ref sa, .ref no, .int (-1), .int 0])), (pl, .inr (8, [.int 0, .int 0, .int 0, .int 0, .ref j0, .ref j1, .ref j2, .ref j3, .ref j4, .ref j5]))] := G
  clear hH hlo
  refine lv_aload_n E.1 E.2.1 dX10_ruled_0 rfl (lv_at hl 0 rfl) ?_
  refine m_vi E G hl (k_hasTown l D K h0 tp tr rr dr rs nr nw im ac co al ta ma ga og pl sa no j0 j1 j2 j3 j4 j5) (wr := []) [0, 1, 2] [] rfl rfl (by decide) (by decide) (by decide) 0 (ci := 10) rfl rfl rfl 0 rfl mw_code_X10_hasTown mw_ini_10 mw_ml_10_219 mw_inst_X10_hasTown mw_sel_X10_hasTown hd_X10_hasTown ⟨by decide, by decide⟩ rfl (Nat.le_of_ble_eq_true rfl) ⟨by decide, by decide⟩ dX10_ruled_1 (fun r_2 u_1 H locs hp G => ?_)
  have G : mG D A s H locs [] := G
  subst hp
  refine lv_if_eq (tgt := 16) E.1 E.2.1 dX10_ruled_4 (by decide) (fun _ => ?_) (fun h => absurd (by decide) h)
  refine lv_bipush (v := (-3)) E.1 E.2.1 dX10_ruled_16 (by decide) ?_
  exact m_reti E G hr rfl (fun _ => 0, fun _ _ => 0, fun _ _ => none) rfl [] (by decide) rfl (by decide) (by decide) dX10_ruled_18
set_option maxHeartbeats 4000000 in
set_option maxRecDepth 100000 in
theorem k_look (l : Launch) (D : va_G) (K : Nat → ClassId) (h0 : Nat) (tp : Nat) (tr : Nat) (rr : Nat) (dr : Nat) (rs : Nat) (nr : Nat) (nw : Nat) (im : Nat) (ac : Nat) (co : Nat) (al : Nat) (ta : Nat) (ma : Nat) (ga : Nat) (og : Nat) (pl : Nat) (sa : Nat) (no : Nat) (j0 : Nat) (j1 : Nat) (j2 : Nat) (j3 : Nat) (j4 : Nat) (j5 : Nat) (p1 : Int32) (p2 : Int32) : mI (S := mU) l yX10_look cX10_look 7 .int ({ frames := 1, cells := 0, slots := 0, locals := 20 }) D K [(h0, .inr (10, [.ref tp, .ref tr, .ref rr, .ref dr, .ref rs, .int 0, .ref nr, .ref nw, .ref im, .int 0, .ref ac, .ref co, .ref al, .ref ta, .ref ma, .ref ga, .ref og])), (nw, .inr (2, [.ref pl, .ref sa, .ref no, .int (-1), .int 0])), (pl, .inr (8, [.int 0, .int 0, .int 0, .int 0, .ref j0, .ref j1, .ref j2, .ref j3, .ref j4, .ref j5]))] [.ref h0, .int p1, .int p2] (fun r u => r = (-1)) (fun u => []) := by
  refine m_enterI (by decide) (Nat.le_of_ble_eq_true rfl) ?_
  intro p e s m args below meth c A ls E hr G hl
  have E : mE p s m meth c cX10_look args 7 RX10 D K A := E
  have hl : lv_has ls 7 [(0, .ref h0), (1, .int p1), (2, .int p2)] := hl
  obtain ⟨H, hH⟩ : ∃ H, H = s.heap := ⟨_, rfl⟩
  obtain ⟨locs, hlo⟩ : ∃ L : List Loc, L = [] := ⟨_, rfl⟩
  rw [← hH, ← hlo] at G
  rw [← hH, ← hlo]
  have G : mG D A s H locs [(h0, .inr (10, [.ref tp, .ref tr, .ref rr, .ref dr, .ref rs, .int 0, .ref nr, .ref nw, .ref im, .int 0, .ref ac, .ref co, .ref al, .ref ta, .ref ma, .ref ga, .ref og])), (nw, .inr (2, [.ref pl, .ref sa, .ref no, .int (-1), .int 0])), (pl, .inr (8, [.int 0, .int 0, .int 0, .int 0, .ref j0, .ref j1, .ref j2, .ref j3, .ref j4, .ref j5]))] := G
  clear hH hlo
  refine lv_aload_n E.1 E.2.1 dX10_look_0 rfl (lv_at hl 0 rfl) ?_
  refine m_vi E G hl (k_hasTown l D K h0 tp tr rr dr rs nr nw im ac co al ta ma ga og pl sa no j0 j1 j2 j3 j4 j5) (wr := []) [0, 1, 2] [] rfl rfl (by decide) (by decide) (by decide) 0 (ci := 10) rfl rfl rfl 0 rfl mw_code_X10_hasTown mw_ini_10 mw_ml_10_219 mw_inst_X10_hasTown mw_sel_X10_hasTown hd_X10_hasTown ⟨by decide, by decide⟩ rfl (Nat.le_of_ble_eq_true rfl) ⟨by decide, by decide⟩ dX10_look_1 (fun r_2 u_1 H locs hp G => ?_)
  have G : mG D A s H locs [] := G
  subst hp
  refine lv_if_eq (tgt := 26) E.1 E.2.1 dX10_look_4 (by decide) (fun _ => ?_) (fun h => absurd (by decide) h)
  refine lv_iconst (v := (-1)) E.1 E.2.1 dX10_look_26 (by decide) ?_
  exact m_reti E G hr rfl (fun _ => 0, fun _ _ => 0, fun _ _ => none) rfl [] (by decide) rfl (by decide) (by decide) dX10_look_27
set_option maxHeartbeats 4000000 in
set_option maxRecDepth 100000 in
theorem k_nights (l : Launch) (D : va_G) (K : Nat → ClassId) (h0 : Nat) (tp : Nat) (tr : Nat) (rr : Nat) (dr : Nat) (rs : Nat) (nr : Nat) (nw : Nat) (im : Nat) (ac : Nat) (co : Nat) (al : Nat) (ta : Nat) (ma : Nat) (ga : Nat) (og : Nat) (pl : Nat) (sa : Nat) (no : Nat) (j0 : Nat) (j1 : Nat) (j2 : Nat) (j3 : Nat) (j4 : Nat) (j5 : Nat) (p1 : Int32) (p2 : Int32) (p3 : Int32) (p4 : Int32) : mI (S := mU) l yX10_nights cX10_nights 9 .int ({ frames := 1, cells := 0, slots := 0, locals := 20 }) D K [(h0, .inr (10, [.ref tp, .ref tr, .ref rr, .ref dr, .ref rs, .int 0, .ref nr, .ref nw, .ref im, .int 0, .ref ac, .ref co, .ref al, .ref ta, .ref ma, .ref ga, .ref og])), (nw, .inr (2, [.ref pl, .ref sa, .ref no, .int (-1), .int 0])), (pl, .inr (8, [.int 0, .int 0, .int 0, .int 0, .ref j0, .ref j1, .ref j2, .ref j3, .ref j4, .ref j5]))] [.ref h0, .int p1, .int p2, .int p3, .int p4] (fun r u => r = (-1)) (fun u => []) := by
  refine m_enterI (by decide) (Nat.le_of_ble_eq_true rfl) ?_
  intro p e s m args below meth c A ls E hr G hl
  have E : mE p s m meth c cX10_nights args 9 RX10 D K A := E
  have hl : lv_has ls 9 [(0, .ref h0), (1, .int p1), (2, .int p2), (3, .int p3), (4, .int p4)] := hl
  obtain ⟨H, hH⟩ : ∃ H, H = s.heap := ⟨_, rfl⟩
  obtain ⟨locs, hlo⟩ : ∃ L : List Loc, L = [] := ⟨_, rfl⟩
  rw [← hH, ← hlo] at G
  rw [← hH, ← hlo]
  have G : mG D A s H locs [(h0, .inr (10, [.ref tp, .ref tr, .ref rr, .ref dr, .ref rs, .int 0, .ref nr, .ref nw, .ref im, .int 0, .ref ac, .ref co, .ref al, .ref ta, .ref ma, .ref ga, .ref og])), (nw, .inr (2, [.ref pl, .ref sa, .ref no, .int (-1), .int 0])), (pl, .inr (8, [.int 0, .int 0, .int 0, .int 0, .ref j0, .ref j1, .ref j2, .ref j3, .ref j4, .ref j5]))] := G
  clear hH hlo
  refine lv_aload_n E.1 E.2.1 dX10_nights_0 rfl (lv_at hl 0 rfl) ?_
  refine m_vi E G hl (k_hasTown l D K h0 tp tr rr dr rs nr nw im ac co al ta ma ga og pl sa no j0 j1 j2 j3 j4 j5) (wr := []) [0, 1, 2] [] rfl rfl (by decide) (by decide) (by decide) 0 (ci := 10) rfl rfl rfl 0 rfl mw_code_X10_hasTown mw_ini_10 mw_ml_10_219 mw_inst_X10_hasTown mw_sel_X10_hasTown hd_X10_hasTown ⟨by decide, by decide⟩ rfl (Nat.le_of_ble_eq_true rfl) ⟨by decide, by decide⟩ dX10_nights_1 (fun r_2 u_1 H locs hp G => ?_)
  have G : mG D A s H locs [] := G
  subst hp
  refine lv_if_eq (tgt := 29) E.1 E.2.1 dX10_nights_4 (by decide) (fun _ => ?_) (fun h => absurd (by decide) h)
  refine lv_iconst (v := (-1)) E.1 E.2.1 dX10_nights_29 (by decide) ?_
  exact m_reti E G hr rfl (fun _ => 0, fun _ _ => 0, fun _ _ => none) rfl [] (by decide) rfl (by decide) (by decide) dX10_nights_30
set_option maxHeartbeats 4000000 in
set_option maxRecDepth 100000 in
theorem k_undo (l : Launch) (D : va_G) (K : Nat → ClassId) (h0 : Nat) (tp : Nat) (tr : Nat) (rr : Nat) (dr : Nat) (rs : Nat) (nr : Nat) (nw : Nat) (im : Nat) (ac : Nat) (co : Nat) (al : Nat) (ta : Nat) (ma : Nat) (ga : Nat) (og : Nat) (b0 : Nat) : mI (S := mU) l yX10_undo cX10_undo 1 .int ({ frames := 0, cells := 0, slots := 0, locals := 0 }) D K [(h0, .inr (10, [.ref tp, .ref tr, .ref rr, .ref dr, .ref rs, .int 0, .ref nr, .ref nw, .ref im, .int 0, .ref ac, .ref co, .ref al, .ref ta, .ref ma, .ref ga, .ref og])), (ac, .inr (0, [.int 0, .int 0, .ref b0]))] [.ref h0] (fun r u => r = (-1)) (fun u => []) := by
  refine m_enterI (by decide) (Nat.le_of_ble_eq_true rfl) ?_
  intro p e s m args below meth c A ls E hr G hl
  have E : mE p s m meth c cX10_undo args 1 RX10 D K A := E
  have hl : lv_has ls 1 [(0, .ref h0)] := hl
  obtain ⟨H, hH⟩ : ∃ H, H = s.heap := ⟨_, rfl⟩
  obtain ⟨locs, hlo⟩ : ∃ L : List Loc, L = [] := ⟨_, rfl⟩
  rw [← hH, ← hlo] at G
  rw [← hH, ← hlo]
  have G : mG D A s H locs [(h0, .inr (10, [.ref tp, .ref tr, .ref rr, .ref dr, .ref rs, .int 0, .ref nr, .ref nw, .ref im, .int 0, .ref ac, .ref co, .ref al, .ref ta, .ref ma, .ref ga, .ref og])), (ac, .inr (0, [.int 0, .int 0, .ref b0]))] := G
  clear hH hlo
  refine lv_aload_n E.1 E.2.1 dX10_undo_0 rfl (lv_at hl 0 rfl) ?_
  refine m_get E G 0 (ci := 10) rfl 10 (C := RX10) (T := TX10) (N := 17) rfl (by decide) mw_fl_10_69 (v := .ref ac) rfl dX10_undo_1 ?_
  refine m_get E G 1 (ci := 0) rfl 0 (C := RX0) (T := TX0) (N := 3) rfl (by decide) mw_fl_10_215 (v := .int 0) rfl dX10_undo_4 ?_
  refine lv_if_ne (tgt := 12) E.1 E.2.1 dX10_undo_7 (by decide) (fun h => absurd (by decide) h) (fun _ => ?_)
  refine lv_iconst (v := (-1)) E.1 E.2.1 dX10_undo_10 (by decide) ?_
  exact m_reti E G hr rfl (fun _ => 0, fun _ _ => 0, fun _ _ => none) rfl [] (by decide) rfl (by decide) (by decide) dX10_undo_11
set_option maxHeartbeats 4000000 in
set_option maxRecDepth 100000 in
theorem k_end (l : Launch) (D : va_G) (K : Nat → ClassId) (h0 : Nat) (tp : Nat) (tr : Nat) (rr : Nat) (dr : Nat) (rs : Nat) (nr : Nat) (nw : Nat) (im : Nat) (ac : Nat) (co : Nat) (al : Nat) (ta : Nat) (ma : Nat) (ga : Nat) (og : Nat) (bt : Nat) (p1 : Int32) : mI (S := mU) l yX10_end cX10_end 2 .int ({ frames := 0, cells := 0, slots := 0, locals := 0 }) D K [(h0, .inr (10, [.ref tp, .ref tr, .ref rr, .ref dr, .ref rs, .int 0, .ref nr, .ref nw, .ref im, .int 0, .ref ac, .ref co, .ref al, .ref ta, .ref ma, .ref ga, .ref og])), (tp, .inr (7, [.ref bt, .int 0, .int 0, .int 40, .int 0, .int 0, .int 0]))] [.ref h0, .int p1] (fun r u => r = ans_end p1) (fun u => []) := by
  refine m_enterI (by decide) (Nat.le_of_ble_eq_true rfl) ?_
  intro p e s m args below meth c A ls E hr G hl
  have E : mE p s m meth c cX10_end args 2 RX10 D K A := E
  have hl : lv_has ls 2 [(0, .ref h0), (1, .int p1)] := hl
  obtain ⟨H, hH⟩ : ∃ H, H = s.heap := ⟨_, rfl⟩
  obtain ⟨locs, hlo⟩ : ∃ L : List Loc, L = [] := ⟨_, rfl⟩
  rw [← hH, ← hlo] at G
  rw [← hH, ← hlo]
  have G : mG D A s H locs [(h0, .inr (10, [.ref tp, .ref tr, .ref rr, .ref dr, .ref rs, .int 0, .ref nr, .ref nw, .ref im, .int 0, .ref ac, .ref co, .ref al, .ref ta, .ref ma, .ref ga, .ref og])), (tp, .inr (7, [.ref bt, .int 0, .int 0, .int 40, .int 0, .int 0, .int 0]))] := G
  clear hH hlo
  refine lv_iload_n E.1 E.2.1 dX10_end_0 rfl (lv_at hl 1 rfl) ?_
  refine lv_if_lt (tgt := 15) E.1 E.2.1 dX10_end_1 (by decide) (fun c_1 => ?_) (fun c_1 => ?_)
  · skip
    refine lv_iconst (v := (-1)) E.1 E.2.1 dX10_end_15 (by decide) ?_
    exact m_reti E G hr rfl (fun _ => 0, fun _ _ => 0, fun _ _ => none) (by first | exact ans_end_1 ‹_› | exact ans_end_2 ‹_› | exact ans_end_2 (Int32.not_le.mp ‹_›) | exact ans_end_3 ‹_› ‹_› | exact ans_end_3 ‹_› (Int32.not_lt.mpr ‹_›)) [] (by decide) rfl (by decide) (by decide) dX10_end_16
  · skip
    refine lv_iload_n E.1 E.2.1 dX10_end_4 rfl (lv_at hl 1 rfl) ?_
    refine lv_aload_n E.1 E.2.1 dX10_end_5 rfl (lv_at hl 0 rfl) ?_
    refine m_get E G 0 (ci := 10) rfl 0 (C := RX10) (T := TX10) (N := 17) rfl (by decide) mw_fl_10_10 (v := .ref tp) rfl dX10_end_6 ?_
    refine m_get E G 1 (ci := 7) rfl 1 (C := RX7) (T := TX7) (N := 7) rfl (by decide) mw_fl_10_100 (v := .int 0) rfl dX10_end_9 ?_
    refine lv_icmp_le (tgt := 17) E.1 E.2.1 dX10_end_12 (by decide) (fun c_2 => ?_) (fun c_2 => ?_)
    · skip
      refine lv_aload_n E.1 E.2.1 dX10_end_17 rfl (lv_at hl 0 rfl) ?_
      refine m_get E G 0 (ci := 10) rfl 0 (C := RX10) (T := TX10) (N := 17) rfl (by decide) mw_fl_10_10 (v := .ref tp) rfl dX10_end_18 ?_
      refine lv_iload_n E.1 E.2.1 dX10_end_21 rfl (lv_at hl 1 rfl) ?_
      refine m_put E G 1 (ci := 7) rfl 1 (C := RX7) (T := TX7) (N := 7) rfl (by decide) mw_fl_10_100 rfl rfl rfl (Nat.le_of_ble_eq_true rfl) dX10_end_22 (fun H locs G => ?_)
      have G : mG D A s H locs [(h0, .inr (10, [.ref tp, .ref tr, .ref rr, .ref dr, .ref rs, .int 0, .ref nr, .ref nw, .ref im, .int 0, .ref ac, .ref co, .ref al, .ref ta, .ref ma, .ref ga, .ref og])), (tp, .inr (7, [.ref bt, .int p1, .int 0, .int 40, .int 0, .int 0, .int 0]))] := G
      refine lv_iload_n E.1 E.2.1 dX10_end_25 rfl (lv_at hl 1 rfl) ?_
      exact m_reti E G hr rfl (fun _ => 0, fun _ _ => 0, fun _ _ => none) (by first | exact ans_end_1 ‹_› | exact ans_end_2 ‹_› | exact ans_end_2 (Int32.not_le.mp ‹_›) | exact ans_end_3 ‹_› ‹_› | exact ans_end_3 ‹_› (Int32.not_lt.mpr ‹_›)) [] (by decide) rfl (by decide) (by decide) dX10_end_26
    · skip
      refine lv_iconst (v := (-1)) E.1 E.2.1 dX10_end_15 (by decide) ?_
      exact m_reti E G hr rfl (fun _ => 0, fun _ _ => 0, fun _ _ => none) (by first | exact ans_end_1 ‹_› | exact ans_end_2 ‹_› | exact ans_end_2 (Int32.not_le.mp ‹_›) | exact ans_end_3 ‹_› ‹_› | exact ans_end_3 ‹_› (Int32.not_lt.mpr ‹_›)) [] (by decide) rfl (by decide) (by decide) dX10_end_16
set_option maxHeartbeats 4000000 in
set_option maxRecDepth 100000 in
theorem k_force (l : Launch) (D : va_G) (K : Nat → ClassId) (h0 : Nat) (tp : Nat) (tr : Nat) (rr : Nat) (dr : Nat) (rs : Nat) (nr : Nat) (nw : Nat) (im : Nat) (ac : Nat) (co : Nat) (al : Nat) (ta : Nat) (ma : Nat) (ga : Nat) (og : Nat) (pl : Nat) (sa : Nat) (no : Nat) (p1 : Int32) : mI (S := mU) l yX10_force cX10_force 3 .int ({ frames := 0, cells := 0, slots := 0, locals := 0 }) D K [(h0, .inr (10, [.ref tp, .ref tr, .ref rr, .ref dr, .ref rs, .int 0, .ref nr, .ref nw, .ref im, .int 0, .ref ac, .ref co, .ref al, .ref ta, .ref ma, .ref ga, .ref og])), (nw, .inr (2, [.ref pl, .ref sa, .ref no, .int (-1), .int 0]))] [.ref h0, .int p1] (fun r u => r = ans_force p1) (fun u => []) := by
  refine m_enterI (by decide) (Nat.le_of_ble_eq_true rfl) ?_
  intro p e s m args below meth c A ls E hr G hl
  have E : mE p s m meth c cX10_force args 3 RX10 D K A := E
  have hl : lv_has ls 3 [(0, .ref h0), (1, .int p1)] := hl
  obtain ⟨H, hH⟩ : ∃ H, H = s.heap := ⟨_, rfl⟩
  obtain ⟨locs, hlo⟩ : ∃ L : List Loc, L = [] := ⟨_, rfl⟩
  rw [← hH, ← hlo] at G
  rw [← hH, ← hlo]
  have G : mG D A s H locs [(h0, .inr (10, [.ref tp, .ref tr, .ref rr, .ref dr, .ref rs, .int 0, .ref nr, .ref nw, .ref im, .int 0, .ref ac, .ref co, .ref al, .ref ta, .ref ma, .ref ga, .ref og])), (nw, .inr (2, [.ref pl, .ref sa, .ref no, .int (-1), .int 0]))] := G
  clear hH hlo
  refine lv_iload_n E.1 E.2.1 dX10_force_0 rfl (lv_at hl 1 rfl) ?_
  refine lv_iconst (v := (-1)) E.1 E.2.1 dX10_force_1 (by decide) ?_
  refine lv_icmp_lt (tgt := 13) E.1 E.2.1 dX10_force_2 (by decide) (fun c_1 => ?_) (fun c_1 => ?_)
  · skip
    refine lv_bipush (v := (-2)) E.1 E.2.1 dX10_force_13 (by decide) ?_
    exact m_reti E G hr rfl (fun _ => 0, fun _ _ => 0, fun _ _ => none) (by first | exact ans_force_1 ‹_› | exact ans_force_2 (Int32.not_lt.mp ‹_›) | exact ans_force_3 ‹_› (Int32.not_le.mpr ‹_›)) [] (by decide) rfl (by decide) (by decide) dX10_force_15
  · skip
    refine lv_iload_n E.1 E.2.1 dX10_force_5 rfl (lv_at hl 1 rfl) ?_
    refine lv_aload_n E.1 E.2.1 dX10_force_6 rfl (lv_at hl 0 rfl) ?_
    refine m_get E G 0 (ci := 10) rfl 5 (C := RX10) (T := TX10) (N := 17) rfl (by decide) mw_fl_10_43 (v := .int 0) rfl dX10_force_7 ?_
    refine lv_icmp_lt (tgt := 16) E.1 E.2.1 dX10_force_10 (by decide) (fun c_2 => ?_) (fun c_2 => ?_)
    · skip
      refine lv_aload_n E.1 E.2.1 dX10_force_16 rfl (lv_at hl 0 rfl) ?_
      refine m_get E G 0 (ci := 10) rfl 7 (C := RX10) (T := TX10) (N := 17) rfl (by decide) mw_fl_10_55 (v := .ref nw) rfl dX10_force_17 ?_
      refine m_get E G 1 (ci := 2) rfl 3 (C := RX2) (T := TX2) (N := 5) rfl (by decide) mw_fl_10_146 (v := .int (-1)) rfl dX10_force_20 ?_
      refine lv_istore_n (lv' := [(2, .int (-1)), (0, .ref h0), (1, .int p1)]) E.1 E.2.1 dX10_force_23 rfl hl (by decide) rfl (fun ls hl => ?_)
      refine lv_aload_n E.1 E.2.1 dX10_force_24 rfl (lv_at hl 1 rfl) ?_
      refine m_get E G 0 (ci := 10) rfl 7 (C := RX10) (T := TX10) (N := 17) rfl (by decide) mw_fl_10_55 (v := .ref nw) rfl dX10_force_25 ?_
      refine lv_iload_n E.1 E.2.1 dX10_force_28 rfl (lv_at hl 2 rfl) ?_
      refine m_put E G 1 (ci := 2) rfl 3 (C := RX2) (T := TX2) (N := 5) rfl (by decide) mw_fl_10_146 rfl rfl rfl (Nat.le_of_ble_eq_true rfl) dX10_force_29 (fun H locs G => ?_)
      have G : mG D A s H locs [(h0, .inr (10, [.ref tp, .ref tr, .ref rr, .ref dr, .ref rs, .int 0, .ref nr, .ref nw, .ref im, .int 0, .ref ac, .ref co, .ref al, .ref ta, .ref ma, .ref ga, .ref og])), (nw, .inr (2, [.ref pl, .ref sa, .ref no, .int p1, .int 0]))] := G
      refine lv_iload_n E.1 E.2.1 dX10_force_32 rfl (lv_at hl 0 rfl) ?_
      exact m_reti E G hr rfl (fun _ => 0, fun _ _ => 0, fun _ _ => none) (by first | exact ans_force_1 ‹_› | exact ans_force_2 (Int32.not_lt.mp ‹_›) | exact ans_force_3 ‹_› (Int32.not_le.mpr ‹_›)) [] (by decide) rfl (by decide) (by decide) dX10_force_33
    · skip
      refine lv_bipush (v := (-2)) E.1 E.2.1 dX10_force_13 (by decide) ?_
      exact m_reti E G hr rfl (fun _ => 0, fun _ _ => 0, fun _ _ => none) (by first | exact ans_force_1 ‹_› | exact ans_force_2 (Int32.not_lt.mp ‹_›) | exact ans_force_3 ‹_› (Int32.not_le.mpr ‹_›)) [] (by decide) rfl (by decide) (by decide) dX10_force_15
set_option maxHeartbeats 4000000 in
set_option maxRecDepth 100000 in
theorem k_note (l : Launch) (D : va_G) (K : Nat → ClassId) (h0 : Nat) (tp : Nat) (tr : Nat) (rr : Nat) (dr : Nat) (rs : Nat) (nr : Nat) (nw : Nat) (im : Nat) (ac : Nat) (co : Nat) (al : Nat) (ta : Nat) (ma : Nat) (ga : Nat) (og : Nat) (pl : Nat) (sa : Nat) (no : Nat) (j0 : Nat) (j1 : Nat) (j2 : Nat) (j3 : Nat) (j4 : Nat) (j5 : Nat) (n0 : Nat) (n1 : Nat) (n2 : Nat) (p1 : Int32) (p2 : Int32) (p3 : Int32) : mI (S := mU) l yX10_note cX10_note 4 .int ({ frames := 1, cells := 0, slots := 0, locals := 21 }) D K [(h0, .inr (10, [.ref tp, .ref tr, .ref rr, .ref dr, .ref rs, .int 0, .ref nr, .ref nw, .ref im, .int 0, .ref ac, .ref co, .ref al, .ref ta, .ref ma, .ref ga, .ref og])), (nw, .inr (2, [.ref pl, .ref sa, .ref no, .int (-1), .int 0])), (pl, .inr (8, [.int 0, .int 0, .int 0, .int 0, .ref j0, .ref j1, .ref j2, .ref j3, .ref j4, .ref j5])), (no, .inr (3, [.int 0, .ref n0, .ref n1, .ref n2]))] [.ref h0, .int p1, .int p2, .int p3] (fun r u => r = ans_note p1) (fun u => []) := by
  refine m_enterI (by decide) (Nat.le_of_ble_eq_true rfl) ?_
  intro p e s m args below meth c A ls E hr G hl
  have E : mE p s m meth c cX10_note args 4 RX10 D K A := E
  have hl : lv_has ls 4 [(0, .ref h0), (1, .int p1), (2, .int p2), (3, .int p3)] := hl
  obtain ⟨H, hH⟩ : ∃ H, H = s.heap := ⟨_, rfl⟩
  obtain ⟨locs, hlo⟩ : ∃ L : List Loc, L = [] := ⟨_, rfl⟩
  rw [← hH, ← hlo] at G
  rw [← hH, ← hlo]
  have G : mG D A s H locs [(h0, .inr (10, [.ref tp, .ref tr, .ref rr, .ref dr, .ref rs, .int 0, .ref nr, .ref nw, .ref im, .int 0, .ref ac, .ref co, .ref al, .ref ta, .ref ma, .ref ga, .ref og])), (nw, .inr (2, [.ref pl, .ref sa, .ref no, .int (-1), .int 0])), (pl, .inr (8, [.int 0, .int 0, .int 0, .int 0, .ref j0, .ref j1, .ref j2, .ref j3, .ref j4, .ref j5])), (no, .inr (3, [.int 0, .ref n0, .ref n1, .ref n2]))] := G
  clear hH hlo
  refine lv_iload_n E.1 E.2.1 dX10_note_0 rfl (lv_at hl 1 rfl) ?_
  refine lv_iconst (v := (-1)) E.1 E.2.1 dX10_note_1 (by decide) ?_
  refine lv_icmp_ne (tgt := 18) E.1 E.2.1 dX10_note_2 (by decide) (fun c_1 => ?_) (fun c_1 => ?_)
  · skip
    refine lv_iload_n E.1 E.2.1 dX10_note_18 rfl (lv_at hl 1 rfl) ?_
    refine lv_if_lt (tgt := 44) E.1 E.2.1 dX10_note_19 (by decide) (fun c_2 => ?_) (fun c_2 => ?_)
    · skip
      refine lv_bipush (v := (-2)) E.1 E.2.1 dX10_note_44 (by decide) ?_
      exact m_reti E G hr rfl (fun _ => 0, fun _ _ => 0, fun _ _ => none) (by first | exact ans_note_1 ‹_› | exact ans_note_2 ‹_›) [] (by decide) rfl (by decide) (by decide) dX10_note_46
    · skip
      refine lv_iload_n E.1 E.2.1 dX10_note_22 rfl (lv_at hl 1 rfl) ?_
      refine lv_bipush (v := 60) E.1 E.2.1 dX10_note_23 (by decide) ?_
      refine lv_icmp_gt (tgt := 44) E.1 E.2.1 dX10_note_25 (by decide) (fun c_3 => ?_) (fun c_3 => ?_)
      · skip
        refine lv_bipush (v := (-2)) E.1 E.2.1 dX10_note_44 (by decide) ?_
        exact m_reti E G hr rfl (fun _ => 0, fun _ _ => 0, fun _ _ => none) (by first | exact ans_note_1 ‹_› | exact ans_note_2 ‹_›) [] (by decide) rfl (by decide) (by decide) dX10_note_46
      · skip
        refine lv_aload_n E.1 E.2.1 dX10_note_28 rfl (lv_at hl 0 rfl) ?_
        refine lv_iload_n E.1 E.2.1 dX10_note_29 rfl (lv_at hl 2 rfl) ?_
        refine m_vi E G hl (k_hasWalker l D K h0 tp tr rr dr rs nr nw im ac co al ta ma ga og pl sa no j0 j1 j2 j3 j4 j5 p2) (wr := [(no, .inr (3, [.int 0, .ref n0, .ref n1, .ref n2]))]) [0, 1, 2] [3] rfl rfl (by decide) (by decide) (by decide) 0 (ci := 10) rfl rfl rfl 1 rfl mw_code_X10_hasWalker mw_ini_10 mw_ml_10_168 mw_inst_X10_hasWalker mw_sel_X10_hasWalker hd_X10_hasWalker ⟨by decide, by decide⟩ rfl (Nat.le_of_ble_eq_true rfl) ⟨by decide, by decide⟩ dX10_note_30 (fun r_5 u_4 H locs hp G => ?_)
        have G : mG D A s H locs [(no, .inr (3, [.int 0, .ref n0, .ref n1, .ref n2]))] := G
        subst hp
        refine lv_if_eq (tgt := 44) E.1 E.2.1 dX10_note_33 (by decide) (fun _ => ?_) (fun h => absurd (by decide) h)
        refine lv_bipush (v := (-2)) E.1 E.2.1 dX10_note_44 (by decide) ?_
        exact m_reti E G hr rfl (fun _ => 0, fun _ _ => 0, fun _ _ => none) (by first | exact ans_note_1 ‹_› | exact ans_note_2 ‹_›) [] (by decide) rfl (by decide) (by decide) dX10_note_46
  · skip
    refine lv_aload_n E.1 E.2.1 dX10_note_5 rfl (lv_at hl 0 rfl) ?_
    refine m_get E G 0 (ci := 10) rfl 7 (C := RX10) (T := TX10) (N := 17) rfl (by decide) mw_fl_10_55 (v := .ref nw) rfl dX10_note_6 ?_
    refine m_get E G 1 (ci := 2) rfl 2 (C := RX2) (T := TX2) (N := 5) rfl (by decide) mw_fl_10_130 (v := .ref no) rfl dX10_note_9 ?_
    refine lv_iconst (v := 0) E.1 E.2.1 dX10_note_12 (by decide) ?_
    refine m_put E G 3 (ci := 3) rfl 0 (C := RX3) (T := TX3) (N := 4) rfl (by decide) mw_fl_10_134 rfl rfl rfl (Nat.le_of_ble_eq_true rfl) dX10_note_13 (fun H locs G => ?_)
    have G : mG D A s H locs [(h0, .inr (10, [.ref tp, .ref tr, .ref rr, .ref dr, .ref rs, .int 0, .ref nr, .ref nw, .ref im, .int 0, .ref ac, .ref co, .ref al, .ref ta, .ref ma, .ref ga, .ref og])), (nw, .inr (2, [.ref pl, .ref sa, .ref no, .int (-1), .int 0])), (pl, .inr (8, [.int 0, .int 0, .int 0, .int 0, .ref j0, .ref j1, .ref j2, .ref j3, .ref j4, .ref j5])), (no, .inr (3, [.int 0, .ref n0, .ref n1, .ref n2]))] := G
    refine lv_iconst (v := 0) E.1 E.2.1 dX10_note_16 (by decide) ?_
    exact m_reti E G hr rfl (fun _ => 0, fun _ _ => 0, fun _ _ => none) (by first | exact ans_note_1 ‹_› | exact ans_note_2 ‹_›) [] (by decide) rfl (by decide) (by decide) dX10_note_17
set_option maxHeartbeats 4000000 in
set_option maxRecDepth 100000 in
theorem k_seed (l : Launch) (D : va_G) (K : Nat → ClassId) (h0 : Nat) (tp : Nat) (tr : Nat) (rr : Nat) (dr : Nat) (rs : Nat) (nr : Nat) (nw : Nat) (im : Nat) (ac : Nat) (co : Nat) (al : Nat) (ta : Nat) (ma : Nat) (ga : Nat) (og : Nat) (pl : Nat) (sa : Nat) (no : Nat) (p1 : Int32) : mI (S := mU) l yX10_seed cX10_seed 3 .int ({ frames := 0, cells := 0, slots := 0, locals := 0 }) D K [(h0, .inr (10, [.ref tp, .ref tr, .ref rr, .ref dr, .ref rs, .int 0, .ref nr, .ref nw, .ref im, .int 0, .ref ac, .ref co, .ref al, .ref ta, .ref ma, .ref ga, .ref og])), (nw, .inr (2, [.ref pl, .ref sa, .ref no, .int (-1), .int 0]))] [.ref h0, .int p1] (fun r u => r = ans_seed p1) (fun u => []) := by
  refine m_enterI (by decide) (Nat.le_of_ble_eq_true rfl) ?_
  intro p e s m args below meth c A ls E hr G hl
  have E : mE p s m meth c cX10_seed args 3 RX10 D K A := E
  have hl : lv_has ls 3 [(0, .ref h0), (1, .int p1)] := hl
  obtain ⟨H, hH⟩ : ∃ H, H = s.heap := ⟨_, rfl⟩
  obtain ⟨locs, hlo⟩ : ∃ L : List Loc, L = [] := ⟨_, rfl⟩
  rw [← hH, ← hlo] at G
  rw [← hH, ← hlo]
  have G : mG D A s H locs [(h0, .inr (10, [.ref tp, .ref tr, .ref rr, .ref dr, .ref rs, .int 0, .ref nr, .ref nw, .ref im, .int 0, .ref ac, .ref co, .ref al, .ref ta, .ref ma, .ref ga, .ref og])), (nw, .inr (2, [.ref pl, .ref sa, .ref no, .int (-1), .int 0]))] := G
  clear hH hlo
  refine lv_iload_n E.1 E.2.1 dX10_seed_0 rfl (lv_at hl 1 rfl) ?_
  refine lv_if_ge (tgt := 6) E.1 E.2.1 dX10_seed_1 (by decide) (fun c_1 => ?_) (fun c_1 => ?_)
  · skip
    refine lv_aload_n E.1 E.2.1 dX10_seed_6 rfl (lv_at hl 0 rfl) ?_
    refine m_get E G 0 (ci := 10) rfl 7 (C := RX10) (T := TX10) (N := 17) rfl (by decide) mw_fl_10_55 (v := .ref nw) rfl dX10_seed_7 ?_
    refine m_get E G 1 (ci := 2) rfl 4 (C := RX2) (T := TX2) (N := 5) rfl (by decide) mw_fl_10_216 (v := .int 0) rfl dX10_seed_10 ?_
    refine lv_istore_n (lv' := [(2, .int 0), (0, .ref h0), (1, .int p1)]) E.1 E.2.1 dX10_seed_13 rfl hl (by decide) rfl (fun ls hl => ?_)
    refine lv_aload_n E.1 E.2.1 dX10_seed_14 rfl (lv_at hl 1 rfl) ?_
    refine m_get E G 0 (ci := 10) rfl 7 (C := RX10) (T := TX10) (N := 17) rfl (by decide) mw_fl_10_55 (v := .ref nw) rfl dX10_seed_15 ?_
    refine lv_iload_n E.1 E.2.1 dX10_seed_18 rfl (lv_at hl 2 rfl) ?_
    refine m_put E G 1 (ci := 2) rfl 4 (C := RX2) (T := TX2) (N := 5) rfl (by decide) mw_fl_10_216 rfl rfl rfl (Nat.le_of_ble_eq_true rfl) dX10_seed_19 (fun H locs G => ?_)
    have G : mG D A s H locs [(h0, .inr (10, [.ref tp, .ref tr, .ref rr, .ref dr, .ref rs, .int 0, .ref nr, .ref nw, .ref im, .int 0, .ref ac, .ref co, .ref al, .ref ta, .ref ma, .ref ga, .ref og])), (nw, .inr (2, [.ref pl, .ref sa, .ref no, .int (-1), .int p1]))] := G
    refine lv_iload_n E.1 E.2.1 dX10_seed_22 rfl (lv_at hl 0 rfl) ?_
    exact m_reti E G hr rfl (fun _ => 0, fun _ _ => 0, fun _ _ => none) (by first | exact ans_seed_1 ‹_› | exact ans_seed_1 (Int32.not_le.mp ‹_›) | exact ans_seed_2 ‹_› | exact ans_seed_2 (Int32.not_lt.mpr ‹_›)) [] (by decide) rfl (by decide) (by decide) dX10_seed_23
  · skip
    refine lv_iconst (v := (-1)) E.1 E.2.1 dX10_seed_4 (by decide) ?_
    exact m_reti E G hr rfl (fun _ => 0, fun _ _ => 0, fun _ _ => none) (by first | exact ans_seed_1 ‹_› | exact ans_seed_1 (Int32.not_le.mp ‹_›) | exact ans_seed_2 ‹_› | exact ans_seed_2 (Int32.not_lt.mpr ‹_›)) [] (by decide) rfl (by decide) (by decide) dX10_seed_5
set_option maxHeartbeats 4000000 in
set_option maxRecDepth 100000 in
theorem k_back (l : Launch) (D : va_G) (K : Nat → ClassId) (h0 : Nat) (tp : Nat) (tr : Nat) (rr : Nat) (dr : Nat) (rs : Nat) (nr : Nat) (nw : Nat) (im : Nat) (ac : Nat) (co : Nat) (al : Nat) (ta : Nat) (ma : Nat) (ga : Nat) (og : Nat) (p1 : Int32) : mI (S := mU) l yX10_back cX10_back 2 .int ({ frames := 0, cells := 0, slots := 0, locals := 0 }) D K [(h0, .inr (10, [.ref tp, .ref tr, .ref rr, .ref dr, .ref rs, .int 0, .ref nr, .ref nw, .ref im, .int 0, .ref ac, .ref co, .ref al, .ref ta, .ref ma, .ref ga, .ref og]))] [.ref h0, .int p1] (fun r u => r = (-1)) (fun u => []) := by
  refine m_enterI (by decide) (Nat.le_of_ble_eq_true rfl) ?_
  intro p e s m args below meth c A ls E hr G hl
  have E : mE p s m meth c cX10_back args 2 RX10 D K A := E
  have hl : lv_has ls 2 [(0, .ref h0), (1, .int p1)] := hl
  obtain ⟨H, hH⟩ : ∃ H, H = s.heap := ⟨_, rfl⟩
  obtain ⟨locs, hlo⟩ : ∃ L : List Loc, L = [] := ⟨_, rfl⟩
  rw [← hH, ← hlo] at G
  rw [← hH, ← hlo]
  have G : mG D A s H locs [(h0, .inr (10, [.ref tp, .ref tr, .ref rr, .ref dr, .ref rs, .int 0, .ref nr, .ref nw, .ref im, .int 0, .ref ac, .ref co, .ref al, .ref ta, .ref ma, .ref ga, .ref og]))] := G
  clear hH hlo
  refine lv_iload_n E.1 E.2.1 dX10_back_0 rfl (lv_at hl 1 rfl) ?_
  refine lv_if_lt (tgt := 20) E.1 E.2.1 dX10_back_1 (by decide) (fun c_1 => ?_) (fun c_1 => ?_)
  · skip
    refine lv_iconst (v := (-1)) E.1 E.2.1 dX10_back_20 (by decide) ?_
    exact m_reti E G hr rfl (fun _ => 0, fun _ _ => 0, fun _ _ => none) rfl [] (by decide) rfl (by decide) (by decide) dX10_back_21
  · skip
    refine lv_iload_n E.1 E.2.1 dX10_back_4 rfl (lv_at hl 1 rfl) ?_
    refine lv_iconst (v := 4) E.1 E.2.1 dX10_back_5 (by decide) ?_
    refine lv_icmp_ge (tgt := 20) E.1 E.2.1 dX10_back_6 (by decide) (fun c_2 => ?_) (fun c_2 => ?_)
    · skip
      refine lv_iconst (v := (-1)) E.1 E.2.1 dX10_back_20 (by decide) ?_
      exact m_reti E G hr rfl (fun _ => 0, fun _ _ => 0, fun _ _ => none) rfl [] (by decide) rfl (by decide) (by decide) dX10_back_21
    · skip
      refine lv_aload_n E.1 E.2.1 dX10_back_9 rfl (lv_at hl 0 rfl) ?_
      refine m_get E G 0 (ci := 10) rfl 9 (C := RX10) (T := TX10) (N := 17) rfl (by decide) mw_fl_10_63 (v := .int 0) rfl dX10_back_10 ?_
      refine lv_iload_n E.1 E.2.1 dX10_back_13 rfl (lv_at hl 1 rfl) ?_
      refine lv_ishr E.1 E.2.1 dX10_back_14 ?_
      refine m_ci 0 (z_shr _) ?_
      refine lv_iconst (v := 1) E.1 E.2.1 dX10_back_15 (by decide) ?_
      refine lv_iand E.1 E.2.1 dX10_back_16 ?_
      refine m_ci 0 (by decide) ?_
      refine lv_if_ne (tgt := 22) E.1 E.2.1 dX10_back_17 (by decide) (fun h => absurd (by decide) h) (fun _ => ?_)
      refine lv_iconst (v := (-1)) E.1 E.2.1 dX10_back_20 (by decide) ?_
      exact m_reti E G hr rfl (fun _ => 0, fun _ _ => 0, fun _ _ => none) rfl [] (by decide) rfl (by decide) (by decide) dX10_back_21
