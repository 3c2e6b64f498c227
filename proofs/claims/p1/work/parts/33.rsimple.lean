theorem mw_cL_11_429 : (Cond.constantLong RX11 429 (60) : Cond) ∈ cw := cw_of (List.mem_append_right _ (List.mem_append_right _ (List.mem_append_right _ (List.mem_append_right _ (List.mem_append_right _ (List.mem_append_right _ (List.mem_append_right _ (List.mem_append_left _ (List.mem_of_getElem? (i := 184) (by decide +kernel)))))))))) (by decide +kernel)
theorem mw_code_X11_in : (Cond.code yX11_in cX11_in 6 (some .boolean) : Cond) ∈ cw := cw_of (List.mem_append_right _ (List.mem_append_right _ (List.mem_append_right _ (List.mem_append_right _ (List.mem_append_right _ (List.mem_append_right _ (List.mem_append_left _ (List.mem_of_getElem? (i := 55) rfl)))))))) (by decide +kernel)
theorem mw_code_X11_isCorner : (Cond.code yX11_isCorner cX11_isCorner 2 (some .boolean) : Cond) ∈ cw := cw_of (List.mem_append_right _ (List.mem_append_right _ (List.mem_append_right _ (List.mem_append_right _ (List.mem_append_right _ (List.mem_append_right _ (List.mem_append_left _ (List.mem_of_getElem? (i := 205) rfl)))))))) (by decide +kernel)
theorem mw_code_X11_isLaid : (Cond.code yX11_isLaid cX11_isLaid 2 (some .boolean) : Cond) ∈ cw := cw_of (List.mem_append_right _ (List.mem_append_right _ (List.mem_append_right _ (List.mem_append_right _ (List.mem_append_right _ (List.mem_append_right _ (List.mem_append_right _ (List.mem_append_left _ (List.mem_of_getElem? (i := 16) rfl))))))))) (by decide +kernel)
theorem mw_code_X11_isRule : (Cond.code yX11_isRule cX11_isRule 2 (some .boolean) : Cond) ∈ cw := cw_of (List.mem_append_right _ (List.mem_append_right _ (List.mem_append_right _ (List.mem_append_right _ (List.mem_append_right _ (List.mem_append_right _ (List.mem_append_left _ (List.mem_of_getElem? (i := 161) rfl)))))))) (by decide +kernel)
theorem mw_code_X11_isTown : (Cond.code yX11_isTown cX11_isTown 1 (some .boolean) : Cond) ∈ cw := cw_of (List.mem_append_right _ (List.mem_append_right _ (List.mem_append_right _ (List.mem_append_right _ (List.mem_append_right _ (List.mem_append_right _ (List.mem_append_left _ (List.mem_of_getElem? (i := 217) rfl)))))))) (by decide +kernel)
theorem mw_code_X11_isWalker : (Cond.code yX11_isWalker cX11_isWalker 2 (some .boolean) : Cond) ∈ cw := cw_of (List.mem_append_right _ (List.mem_append_right _ (List.mem_append_right _ (List.mem_append_right _ (List.mem_append_right _ (List.mem_append_right _ (List.mem_append_left _ (List.mem_of_getElem? (i := 185) rfl)))))))) (by decide +kernel)
theorem mw_fl_11_267 : (Cond.fieldLink RX11 267 "LureTownModel" "undone" "I" : Cond) ∈ cw := cw_of (List.mem_append_right _ (List.mem_append_right _ (List.mem_append_right _ (List.mem_append_right _ (List.mem_append_right _ (List.mem_append_left _ (List.mem_of_getElem? (i := 133) (by decide +kernel)))))))) (by decide +kernel)
theorem mw_fl_11_446 : (Cond.fieldLink RX11 446 "LureTownModel" "x" "I" : Cond) ∈ cw := cw_of (List.mem_append_right _ (List.mem_append_right _ (List.mem_append_right _ (List.mem_append_right _ (List.mem_append_right _ (List.mem_append_left _ (List.mem_of_getElem? (i := 129) (by decide +kernel)))))))) (by decide +kernel)
theorem mw_fl_11_83 : (Cond.fieldLink RX11 83 "LureTownModel" "taped" "I" : Cond) ∈ cw := cw_of (List.mem_append_right _ (List.mem_append_right _ (List.mem_append_right _ (List.mem_append_right _ (List.mem_append_right _ (List.mem_append_left _ (List.mem_of_getElem? (i := 108) (by decide +kernel)))))))) (by decide +kernel)
theorem mw_inst_X11_isCorner : (Cond.instanceMethod yX11_isCorner : Cond) ∈ cw := cw_of (List.mem_append_right _ (List.mem_append_right _ (List.mem_append_right _ (List.mem_append_right _ (List.mem_append_right _ (List.mem_append_right _ (List.mem_append_left _ (List.mem_of_getElem? (i := 204) (by decide +kernel))))))))) (by decide +kernel)
theorem mw_inst_X11_isLaid : (Cond.instanceMethod yX11_isLaid : Cond) ∈ cw := cw_of (List.mem_append_right _ (List.mem_append_right _ (List.mem_append_right _ (List.mem_append_right _ (List.mem_append_right _ (List.mem_append_right _ (List.mem_append_right _ (List.mem_append_left _ (List.mem_of_getElem? (i := 15) (by decide +kernel)))))))))) (by decide +kernel)
theorem mw_inst_X11_isRule : (Cond.instanceMethod yX11_isRule : Cond) ∈ cw := cw_of (List.mem_append_right _ (List.mem_append_right _ (List.mem_append_right _ (List.mem_append_right _ (List.mem_append_right _ (List.mem_append_right _ (List.mem_append_left _ (List.mem_of_getElem? (i := 160) (by decide +kernel))))))))) (by decide +kernel)
theorem mw_inst_X11_isTown : (Cond.instanceMethod yX11_isTown : Cond) ∈ cw := cw_of (List.mem_append_right _ (List.mem_append_right _ (List.mem_append_right _ (List.mem_append_right _ (List.mem_append_right _ (List.mem_append_right _ (List.mem_append_left _ (List.mem_of_getElem? (i := 216) (by decide +kernel))))))))) (by decide +kernel)
theorem mw_inst_X11_isWalker : (Cond.instanceMethod yX11_isWalker : Cond) ∈ cw := cw_of (List.mem_append_right _ (List.mem_append_right _ (List.mem_append_right _ (List.mem_append_right _ (List.mem_append_right _ (List.mem_append_right _ (List.mem_append_left _ (List.mem_of_getElem? (i := 184) (by decide +kernel))))))))) (by decide +kernel)
theorem mw_ml_11_121 : (Cond.methodLink RX11 121 yX11_in : Cond) ∈ cw := cw_of (List.mem_append_right _ (List.mem_append_right _ (List.mem_append_right _ (List.mem_append_right _ (List.mem_append_right _ (List.mem_append_right _ (List.mem_append_left _ (List.mem_of_getElem? (i := 53) (by decide +kernel))))))))) (by decide +kernel)
theorem mw_ml_11_288 : (Cond.methodLink RX11 288 yX11_isLaid : Cond) ∈ cw := cw_of (List.mem_append_right _ (List.mem_append_right _ (List.mem_append_right _ (List.mem_append_right _ (List.mem_append_right _ (List.mem_append_right _ (List.mem_append_right _ (List.mem_append_left _ (List.mem_of_getElem? (i := 13) (by decide +kernel)))))))))) (by decide +kernel)
theorem mw_ml_11_308 : (Cond.methodLink RX11 308 yX11_isRule : Cond) ∈ cw := cw_of (List.mem_append_right _ (List.mem_append_right _ (List.mem_append_right _ (List.mem_append_right _ (List.mem_append_right _ (List.mem_append_right _ (List.mem_append_left _ (List.mem_of_getElem? (i := 158) (by decide +kernel))))))))) (by decide +kernel)
theorem mw_ml_11_317 : (Cond.methodLink RX11 317 yX11_isWalker : Cond) ∈ cw := cw_of (List.mem_append_right _ (List.mem_append_right _ (List.mem_append_right _ (List.mem_append_right _ (List.mem_append_right _ (List.mem_append_right _ (List.mem_append_left _ (List.mem_of_getElem? (i := 182) (by decide +kernel))))))))) (by decide +kernel)
theorem mw_ml_11_323 : (Cond.methodLink RX11 323 yX11_isCorner : Cond) ∈ cw := cw_of (List.mem_append_right _ (List.mem_append_right _ (List.mem_append_right _ (List.mem_append_right _ (List.mem_append_right _ (List.mem_append_right _ (List.mem_append_left _ (List.mem_of_getElem? (i := 202) (by decide +kernel))))))))) (by decide +kernel)
theorem mw_ml_11_359 : (Cond.methodLink RX11 359 yX11_isTown : Cond) ∈ cw := cw_of (List.mem_append_right _ (List.mem_append_right _ (List.mem_append_right _ (List.mem_append_right _ (List.mem_append_right _ (List.mem_append_right _ (List.mem_append_left _ (List.mem_of_getElem? (i := 214) (by decide +kernel))))))))) (by decide +kernel)
theorem mw_sel_X11_isCorner : (Cond.selects RX11 yX11_isCorner yX11_isCorner : Cond) ∈ cw := cw_of (List.mem_append_left _ (List.mem_of_getElem? (i := 88) (by decide +kernel))) (by decide +kernel)
theorem mw_sel_X11_isLaid : (Cond.selects RX11 yX11_isLaid yX11_isLaid : Cond) ∈ cw := cw_of (List.mem_append_left _ (List.mem_of_getElem? (i := 98) (by decide +kernel))) (by decide +kernel)
theorem mw_sel_X11_isRule : (Cond.selects RX11 yX11_isRule yX11_isRule : Cond) ∈ cw := cw_of (List.mem_append_left _ (List.mem_of_getElem? (i := 80) (by decide +kernel))) (by decide +kernel)
theorem mw_sel_X11_isTown : (Cond.selects RX11 yX11_isTown yX11_isTown : Cond) ∈ cw := cw_of (List.mem_append_left _ (List.mem_of_getElem? (i := 89) (by decide +kernel))) (by decide +kernel)
theorem mw_sel_X11_isWalker : (Cond.selects RX11 yX11_isWalker yX11_isWalker : Cond) ∈ cw := cw_of (List.mem_append_left _ (List.mem_of_getElem? (i := 84) (by decide +kernel))) (by decide +kernel)
theorem mw_stat_X11_in : (Cond.static yX11_in : Cond) ∈ cw := cw_of (List.mem_append_right _ (List.mem_append_right _ (List.mem_append_right _ (List.mem_append_right _ (List.mem_append_right _ (List.mem_append_right _ (List.mem_append_left _ (List.mem_of_getElem? (i := 54) (by decide +kernel))))))))) (by decide +kernel)
theorem dX11_ahead_0 : decode cX11_ahead 0 = .ok (.aload_n 0, 1) := by decide +kernel
theorem dX11_ahead_1 : decode cX11_ahead 1 = .ok (.invokevirtual 359, 3) := by decide +kernel
theorem dX11_ahead_4 : decode cX11_ahead 4 = .ok (.ifCond .eq 40, 3) := by decide +kernel
theorem dX11_ahead_44 : decode cX11_ahead 44 = .ok (.iconst (-1), 1) := by decide +kernel
theorem dX11_ahead_45 : decode cX11_ahead 45 = .ok (.ireturn, 1) := by decide +kernel
theorem dX11_bait_0 : decode cX11_bait 0 = .ok (.aload_n 0, 1) := by decide +kernel
theorem dX11_bait_1 : decode cX11_bait 1 = .ok (.iload_n 1, 1) := by decide +kernel
theorem dX11_bait_2 : decode cX11_bait 2 = .ok (.invokevirtual 285, 3) := by decide +kernel
theorem dX11_bait_5 : decode cX11_bait 5 = .ok (.ifCond .eq 24, 3) := by decide +kernel
theorem dX11_bait_29 : decode cX11_bait 29 = .ok (.iconst (-1), 1) := by decide +kernel
theorem dX11_bait_30 : decode cX11_bait 30 = .ok (.ireturn, 1) := by decide +kernel
theorem dX11_best_0 : decode cX11_best 0 = .ok (.aload_n 0, 1) := by decide +kernel
theorem dX11_best_1 : decode cX11_best 1 = .ok (.iload_n 1, 1) := by decide +kernel
theorem dX11_best_2 : decode cX11_best 2 = .ok (.invokevirtual 288, 3) := by decide +kernel
theorem dX11_best_5 : decode cX11_best 5 = .ok (.ifCond .eq 46, 3) := by decide +kernel
theorem dX11_best_51 : decode cX11_best 51 = .ok (.iconst (-1), 1) := by decide +kernel
theorem dX11_best_52 : decode cX11_best 52 = .ok (.ireturn, 1) := by decide +kernel
theorem dX11_calm_0 : decode cX11_calm 0 = .ok (.aload_n 0, 1) := by decide +kernel
theorem dX11_calm_1 : decode cX11_calm 1 = .ok (.iload_n 1, 1) := by decide +kernel
theorem dX11_calm_2 : decode cX11_calm 2 = .ok (.invokevirtual 317, 3) := by decide +kernel
theorem dX11_calm_5 : decode cX11_calm 5 = .ok (.ifCond .eq 24, 3) := by decide +kernel
theorem dX11_calm_29 : decode cX11_calm 29 = .ok (.iconst (-1), 1) := by decide +kernel
theorem dX11_calm_30 : decode cX11_calm 30 = .ok (.ireturn, 1) := by decide +kernel
theorem dX11_cover_0 : decode cX11_cover 0 = .ok (.aload_n 0, 1) := by decide +kernel
theorem dX11_cover_1 : decode cX11_cover 1 = .ok (.invokevirtual 359, 3) := by decide +kernel
theorem dX11_cover_4 : decode cX11_cover 4 = .ok (.ifCond .eq 13, 3) := by decide +kernel
theorem dX11_cover_17 : decode cX11_cover 17 = .ok (.iconst (-1), 1) := by decide +kernel
theorem dX11_cover_18 : decode cX11_cover 18 = .ok (.ireturn, 1) := by decide +kernel
theorem dX11_end_0 : decode cX11_end 0 = .ok (.iload_n 1, 1) := by decide +kernel
theorem dX11_end_1 : decode cX11_end 1 = .ok (.ifCond .lt 11, 3) := by decide +kernel
theorem dX11_end_4 : decode cX11_end 4 = .ok (.iload_n 1, 1) := by decide +kernel
theorem dX11_end_5 : decode cX11_end 5 = .ok (.aload_n 0, 1) := by decide +kernel
theorem dX11_end_6 : decode cX11_end 6 = .ok (.getfield 83, 3) := by decide +kernel
theorem dX11_end_9 : decode cX11_end 9 = .ok (.if_icmp .le 5, 3) := by decide +kernel
theorem dX11_end_12 : decode cX11_end 12 = .ok (.iconst (-1), 1) := by decide +kernel
theorem dX11_end_13 : decode cX11_end 13 = .ok (.ireturn, 1) := by decide +kernel
theorem dX11_end_14 : decode cX11_end 14 = .ok (.aload_n 0, 1) := by decide +kernel
theorem dX11_end_15 : decode cX11_end 15 = .ok (.iload_n 1, 1) := by decide +kernel
theorem dX11_end_16 : decode cX11_end 16 = .ok (.putfield 83, 3) := by decide +kernel
theorem dX11_end_19 : decode cX11_end 19 = .ok (.iload_n 1, 1) := by decide +kernel
theorem dX11_end_20 : decode cX11_end 20 = .ok (.ireturn, 1) := by decide +kernel
theorem dX11_far_0 : decode cX11_far 0 = .ok (.aload_n 0, 1) := by decide +kernel
theorem dX11_far_1 : decode cX11_far 1 = .ok (.iload_n 1, 1) := by decide +kernel
theorem dX11_far_2 : decode cX11_far 2 = .ok (.invokevirtual 317, 3) := by decide +kernel
theorem dX11_far_5 : decode cX11_far 5 = .ok (.ifCond .eq 19, 3) := by decide +kernel
theorem dX11_far_24 : decode cX11_far 24 = .ok (.iconst (-1), 1) := by decide +kernel
theorem dX11_far_25 : decode cX11_far 25 = .ok (.ireturn, 1) := by decide +kernel
theorem dX11_first_0 : decode cX11_first 0 = .ok (.aload_n 0, 1) := by decide +kernel
theorem dX11_first_1 : decode cX11_first 1 = .ok (.invokevirtual 359, 3) := by decide +kernel
theorem dX11_first_4 : decode cX11_first 4 = .ok (.ifCond .eq 13, 3) := by decide +kernel
theorem dX11_first_17 : decode cX11_first 17 = .ok (.iconst (-1), 1) := by decide +kernel
theorem dX11_first_18 : decode cX11_first 18 = .ok (.ireturn, 1) := by decide +kernel
theorem dX11_force_0 : decode cX11_force 0 = .ok (.iload_n 1, 1) := by decide +kernel
theorem dX11_force_1 : decode cX11_force 1 = .ok (.iconst (-1), 1) := by decide +kernel
theorem dX11_force_2 : decode cX11_force 2 = .ok (.if_icmp .eq 14, 3) := by decide +kernel
theorem dX11_force_5 : decode cX11_force 5 = .ok (.aload_n 0, 1) := by decide +kernel
theorem dX11_force_6 : decode cX11_force 6 = .ok (.iload_n 1, 1) := by decide +kernel
theorem dX11_force_7 : decode cX11_force 7 = .ok (.invokevirtual 308, 3) := by decide +kernel
theorem dX11_force_10 : decode cX11_force 10 = .ok (.ifCond .ne 6, 3) := by decide +kernel
theorem dX11_force_13 : decode cX11_force 13 = .ok (.bipush (-2), 2) := by decide +kernel
theorem dX11_force_15 : decode cX11_force 15 = .ok (.ireturn, 1) := by decide +kernel
theorem dX11_force_16 : decode cX11_force 16 = .ok (.aload_n 0, 1) := by decide +kernel
theorem dX11_force_17 : decode cX11_force 17 = .ok (.getfield 42, 3) := by decide +kernel
theorem dX11_force_20 : decode cX11_force 20 = .ok (.istore_n 2, 1) := by decide +kernel
theorem dX11_force_21 : decode cX11_force 21 = .ok (.aload_n 0, 1) := by decide +kernel
theorem dX11_force_22 : decode cX11_force 22 = .ok (.iload_n 1, 1) := by decide +kernel
theorem dX11_force_23 : decode cX11_force 23 = .ok (.putfield 42, 3) := by decide +kernel
theorem dX11_force_26 : decode cX11_force 26 = .ok (.iload_n 2, 1) := by decide +kernel
theorem dX11_force_27 : decode cX11_force 27 = .ok (.ireturn, 1) := by decide +kernel
theorem dX11_had_0 : decode cX11_had 0 = .ok (.aload_n 0, 1) := by decide +kernel
theorem dX11_had_1 : decode cX11_had 1 = .ok (.iload_n 1, 1) := by decide +kernel
theorem dX11_had_2 : decode cX11_had 2 = .ok (.invokevirtual 317, 3) := by decide +kernel
theorem dX11_had_5 : decode cX11_had 5 = .ok (.ifCond .eq 13, 3) := by decide +kernel
theorem dX11_had_18 : decode cX11_had 18 = .ok (.iconst (-1), 1) := by decide +kernel
theorem dX11_had_19 : decode cX11_had 19 = .ok (.ireturn, 1) := by decide +kernel
theorem dX11_hearts_0 : decode cX11_hearts 0 = .ok (.aload_n 0, 1) := by decide +kernel
theorem dX11_hearts_1 : decode cX11_hearts 1 = .ok (.iload_n 1, 1) := by decide +kernel
theorem dX11_hearts_2 : decode cX11_hearts 2 = .ok (.invokevirtual 317, 3) := by decide +kernel
theorem dX11_hearts_5 : decode cX11_hearts 5 = .ok (.ifCond .eq 16, 3) := by decide +kernel
theorem dX11_hearts_21 : decode cX11_hearts 21 = .ok (.iconst (-1), 1) := by decide +kernel
theorem dX11_hearts_22 : decode cX11_hearts 22 = .ok (.ireturn, 1) := by decide +kernel
theorem dX11_kind_0 : decode cX11_kind 0 = .ok (.aload_n 0, 1) := by decide +kernel
theorem dX11_kind_1 : decode cX11_kind 1 = .ok (.iload_n 1, 1) := by decide +kernel
theorem dX11_kind_2 : decode cX11_kind 2 = .ok (.invokevirtual 288, 3) := by decide +kernel
theorem dX11_kind_5 : decode cX11_kind 5 = .ok (.ifCond .eq 44, 3) := by decide +kernel
theorem dX11_kind_49 : decode cX11_kind 49 = .ok (.iconst (-1), 1) := by decide +kernel
theorem dX11_kind_50 : decode cX11_kind 50 = .ok (.ireturn, 1) := by decide +kernel
theorem dX11_look_0 : decode cX11_look 0 = .ok (.aload_n 0, 1) := by decide +kernel
theorem dX11_look_1 : decode cX11_look 1 = .ok (.invokevirtual 359, 3) := by decide +kernel
theorem dX11_look_4 : decode cX11_look 4 = .ok (.ifCond .eq 25, 3) := by decide +kernel
theorem dX11_look_29 : decode cX11_look 29 = .ok (.iconst (-1), 1) := by decide +kernel
theorem dX11_look_30 : decode cX11_look 30 = .ok (.ireturn, 1) := by decide +kernel
theorem dX11_lure_0 : decode cX11_lure 0 = .ok (.aload_n 0, 1) := by decide +kernel
theorem dX11_lure_1 : decode cX11_lure 1 = .ok (.iload_n 1, 1) := by decide +kernel
theorem dX11_lure_2 : decode cX11_lure 2 = .ok (.invokevirtual 285, 3) := by decide +kernel
theorem dX11_lure_5 : decode cX11_lure 5 = .ok (.ifCond .ne 5, 3) := by decide +kernel
theorem dX11_lure_8 : decode cX11_lure 8 = .ok (.iconst (-1), 1) := by decide +kernel
theorem dX11_lure_9 : decode cX11_lure 9 = .ok (.ireturn, 1) := by decide +kernel
theorem dX11_move_0 : decode cX11_move 0 = .ok (.aload_n 0, 1) := by decide +kernel
theorem dX11_move_1 : decode cX11_move 1 = .ok (.iload_n 1, 1) := by decide +kernel
theorem dX11_move_2 : decode cX11_move 2 = .ok (.invokevirtual 288, 3) := by decide +kernel
theorem dX11_move_5 : decode cX11_move 5 = .ok (.ifCond .eq 20, 3) := by decide +kernel
theorem dX11_move_25 : decode cX11_move 25 = .ok (.iconst (-1), 1) := by decide +kernel
theorem dX11_move_26 : decode cX11_move 26 = .ok (.ireturn, 1) := by decide +kernel
theorem dX11_nights_0 : decode cX11_nights 0 = .ok (.aload_n 0, 1) := by decide +kernel
theorem dX11_nights_1 : decode cX11_nights 1 = .ok (.invokevirtual 359, 3) := by decide +kernel
theorem dX11_nights_4 : decode cX11_nights 4 = .ok (.ifCond .eq 50, 3) := by decide +kernel
theorem dX11_nights_54 : decode cX11_nights 54 = .ok (.iconst (-1), 1) := by decide +kernel
theorem dX11_nights_55 : decode cX11_nights 55 = .ok (.ireturn, 1) := by decide +kernel
theorem dX11_note_0 : decode cX11_note 0 = .ok (.iload_n 1, 1) := by decide +kernel
theorem dX11_note_1 : decode cX11_note 1 = .ok (.iconst (-1), 1) := by decide +kernel
theorem dX11_note_2 : decode cX11_note 2 = .ok (.if_icmp .ne 13, 3) := by decide +kernel
theorem dX11_note_5 : decode cX11_note 5 = .ok (.aload_n 0, 1) := by decide +kernel
theorem dX11_note_6 : decode cX11_note 6 = .ok (.getfield 39, 3) := by decide +kernel
theorem dX11_note_9 : decode cX11_note 9 = .ok (.bipush 126, 2) := by decide +kernel
theorem dX11_note_11 : decode cX11_note 11 = .ok (.iconst 0, 1) := by decide +kernel
theorem dX11_note_12 : decode cX11_note 12 = .ok (.iastore, 1) := by decide +kernel
theorem dX11_note_13 : decode cX11_note 13 = .ok (.iconst 0, 1) := by decide +kernel
theorem dX11_note_14 : decode cX11_note 14 = .ok (.ireturn, 1) := by decide +kernel
theorem dX11_note_15 : decode cX11_note 15 = .ok (.iload_n 1, 1) := by decide +kernel
theorem dX11_note_16 : decode cX11_note 16 = .ok (.i2l, 1) := by decide +kernel
theorem dX11_note_17 : decode cX11_note 17 = .ok (.lconst 0, 1) := by decide +kernel
theorem dX11_note_18 : decode cX11_note 18 = .ok (.ldc2_w 429, 3) := by decide +kernel
theorem dX11_note_21 : decode cX11_note 21 = .ok (.invokestatic 121, 3) := by decide +kernel
theorem dX11_note_24 : decode cX11_note 24 = .ok (.ifCond .eq 31, 3) := by decide +kernel
theorem dX11_note_27 : decode cX11_note 27 = .ok (.aload_n 0, 1) := by decide +kernel
theorem dX11_note_28 : decode cX11_note 28 = .ok (.iload_n 2, 1) := by decide +kernel
theorem dX11_note_29 : decode cX11_note 29 = .ok (.invokevirtual 317, 3) := by decide +kernel
theorem dX11_note_32 : decode cX11_note 32 = .ok (.ifCond .eq 23, 3) := by decide +kernel
theorem dX11_note_55 : decode cX11_note 55 = .ok (.bipush (-2), 2) := by decide +kernel
theorem dX11_note_57 : decode cX11_note 57 = .ok (.ireturn, 1) := by decide +kernel
theorem dX11_pence_0 : decode cX11_pence 0 = .ok (.aload_n 0, 1) := by decide +kernel
theorem dX11_pence_1 : decode cX11_pence 1 = .ok (.iload_n 2, 1) := by decide +kernel
theorem dX11_pence_2 : decode cX11_pence 2 = .ok (.invokevirtual 317, 3) := by decide +kernel
theorem dX11_pence_5 : decode cX11_pence 5 = .ok (.ifCond .eq 15, 3) := by decide +kernel
theorem dX11_pence_20 : decode cX11_pence 20 = .ok (.iconst (-1), 1) := by decide +kernel
theorem dX11_pence_21 : decode cX11_pence 21 = .ok (.ireturn, 1) := by decide +kernel
theorem dX11_rests_0 : decode cX11_rests 0 = .ok (.aload_n 0, 1) := by decide +kernel
theorem dX11_rests_1 : decode cX11_rests 1 = .ok (.iload_n 1, 1) := by decide +kernel
theorem dX11_rests_2 : decode cX11_rests 2 = .ok (.invokevirtual 288, 3) := by decide +kernel
theorem dX11_rests_5 : decode cX11_rests 5 = .ok (.ifCond .eq 41, 3) := by decide +kernel
theorem dX11_rests_46 : decode cX11_rests 46 = .ok (.iconst (-1), 1) := by decide +kernel
theorem dX11_rests_47 : decode cX11_rests 47 = .ok (.ireturn, 1) := by decide +kernel
theorem dX11_ring_0 : decode cX11_ring 0 = .ok (.aload_n 0, 1) := by decide +kernel
theorem dX11_ring_1 : decode cX11_ring 1 = .ok (.invokevirtual 359, 3) := by decide +kernel
theorem dX11_ring_4 : decode cX11_ring 4 = .ok (.ifCond .eq 13, 3) := by decide +kernel
theorem dX11_ring_17 : decode cX11_ring 17 = .ok (.iconst (-1), 1) := by decide +kernel
theorem dX11_ring_18 : decode cX11_ring 18 = .ok (.ireturn, 1) := by decide +kernel
theorem dX11_ruled_0 : decode cX11_ruled 0 = .ok (.aload_n 0, 1) := by decide +kernel
theorem dX11_ruled_1 : decode cX11_ruled 1 = .ok (.invokevirtual 359, 3) := by decide +kernel
theorem dX11_ruled_4 : decode cX11_ruled 4 = .ok (.ifCond .eq 13, 3) := by decide +kernel
theorem dX11_ruled_17 : decode cX11_ruled 17 = .ok (.bipush (-3), 2) := by decide +kernel
theorem dX11_ruled_19 : decode cX11_ruled 19 = .ok (.ireturn, 1) := by decide +kernel
theorem dX11_safe_0 : decode cX11_safe 0 = .ok (.aload_n 0, 1) := by decide +kernel
theorem dX11_safe_1 : decode cX11_safe 1 = .ok (.iload_n 1, 1) := by decide +kernel
theorem dX11_safe_2 : decode cX11_safe 2 = .ok (.invokevirtual 317, 3) := by decide +kernel
theorem dX11_safe_5 : decode cX11_safe 5 = .ok (.ifCond .eq 32, 3) := by decide +kernel
theorem dX11_safe_37 : decode cX11_safe 37 = .ok (.iconst (-1), 1) := by decide +kernel
theorem dX11_safe_38 : decode cX11_safe 38 = .ok (.ireturn, 1) := by decide +kernel
theorem dX11_seed_0 : decode cX11_seed 0 = .ok (.iload_n 1, 1) := by decide +kernel
theorem dX11_seed_1 : decode cX11_seed 1 = .ok (.ifCond .ge 5, 3) := by decide +kernel
theorem dX11_seed_4 : decode cX11_seed 4 = .ok (.iconst (-1), 1) := by decide +kernel
theorem dX11_seed_5 : decode cX11_seed 5 = .ok (.ireturn, 1) := by decide +kernel
theorem dX11_seed_6 : decode cX11_seed 6 = .ok (.aload_n 0, 1) := by decide +kernel
theorem dX11_seed_7 : decode cX11_seed 7 = .ok (.getfield 446, 3) := by decide +kernel
theorem dX11_seed_10 : decode cX11_seed 10 = .ok (.istore_n 2, 1) := by decide +kernel
theorem dX11_seed_11 : decode cX11_seed 11 = .ok (.aload_n 0, 1) := by decide +kernel
theorem dX11_seed_12 : decode cX11_seed 12 = .ok (.iload_n 1, 1) := by decide +kernel
theorem dX11_seed_13 : decode cX11_seed 13 = .ok (.putfield 446, 3) := by decide +kernel
theorem dX11_seed_16 : decode cX11_seed 16 = .ok (.iload_n 2, 1) := by decide +kernel
theorem dX11_seed_17 : decode cX11_seed 17 = .ok (.ireturn, 1) := by decide +kernel
theorem dX11_set_0 : decode cX11_set 0 = .ok (.aload_n 0, 1) := by decide +kernel
theorem dX11_set_1 : decode cX11_set 1 = .ok (.iload_n 1, 1) := by decide +kernel
theorem dX11_set_2 : decode cX11_set 2 = .ok (.invokevirtual 285, 3) := by decide +kernel
theorem dX11_set_5 : decode cX11_set 5 = .ok (.ifCond .eq 19, 3) := by decide +kernel
theorem dX11_set_24 : decode cX11_set 24 = .ok (.iconst (-1), 1) := by decide +kernel
theorem dX11_set_25 : decode cX11_set 25 = .ok (.ireturn, 1) := by decide +kernel
theorem dX11_step_0 : decode cX11_step 0 = .ok (.aload_n 0, 1) := by decide +kernel
theorem dX11_step_1 : decode cX11_step 1 = .ok (.invokevirtual 359, 3) := by decide +kernel
theorem dX11_step_4 : decode cX11_step 4 = .ok (.ifCond .eq 16, 3) := by decide +kernel
theorem dX11_step_20 : decode cX11_step 20 = .ok (.iconst (-1), 1) := by decide +kernel
theorem dX11_step_21 : decode cX11_step 21 = .ok (.ireturn, 1) := by decide +kernel
theorem dX11_stuck_0 : decode cX11_stuck 0 = .ok (.aload_n 0, 1) := by decide +kernel
theorem dX11_stuck_1 : decode cX11_stuck 1 = .ok (.iload_n 1, 1) := by decide +kernel
theorem dX11_stuck_2 : decode cX11_stuck 2 = .ok (.invokevirtual 317, 3) := by decide +kernel
theorem dX11_stuck_5 : decode cX11_stuck 5 = .ok (.ifCond .ne 5, 3) := by decide +kernel
theorem dX11_stuck_8 : decode cX11_stuck 8 = .ok (.iconst (-1), 1) := by decide +kernel
theorem dX11_stuck_9 : decode cX11_stuck 9 = .ok (.ireturn, 1) := by decide +kernel
theorem dX11_undo_0 : decode cX11_undo 0 = .ok (.aload_n 0, 1) := by decide +kernel
theorem dX11_undo_1 : decode cX11_undo 1 = .ok (.getfield 267, 3) := by decide +kernel
theorem dX11_undo_4 : decode cX11_undo 4 = .ok (.ifCond .ne 5, 3) := by decide +kernel
theorem dX11_undo_7 : decode cX11_undo 7 = .ok (.iconst (-1), 1) := by decide +kernel
theorem dX11_undo_8 : decode cX11_undo 8 = .ok (.ireturn, 1) := by decide +kernel
theorem dX11_walker_0 : decode cX11_walker 0 = .ok (.aload_n 0, 1) := by decide +kernel
theorem dX11_walker_1 : decode cX11_walker 1 = .ok (.iload_n 1, 1) := by decide +kernel
theorem dX11_walker_2 : decode cX11_walker 2 = .ok (.invokevirtual 317, 3) := by decide +kernel
theorem dX11_walker_5 : decode cX11_walker 5 = .ok (.ifCond .ne 5, 3) := by decide +kernel
theorem dX11_walker_8 : decode cX11_walker 8 = .ok (.iconst (-1), 1) := by decide +kernel
theorem dX11_walker_9 : decode cX11_walker 9 = .ok (.ireturn, 1) := by decide +kernel
theorem dX11_waries_0 : decode cX11_waries 0 = .ok (.aload_n 0, 1) := by decide +kernel
theorem dX11_waries_1 : decode cX11_waries 1 = .ok (.iload_n 1, 1) := by decide +kernel
theorem dX11_waries_2 : decode cX11_waries 2 = .ok (.invokevirtual 317, 3) := by decide +kernel
theorem dX11_waries_5 : decode cX11_waries 5 = .ok (.ifCond .eq 20, 3) := by decide +kernel
theorem dX11_waries_25 : decode cX11_waries 25 = .ok (.iconst (-1), 1) := by decide +kernel
theorem dX11_waries_26 : decode cX11_waries 26 = .ok (.ireturn, 1) := by decide +kernel
theorem dX11_ways_0 : decode cX11_ways 0 = .ok (.aload_n 0, 1) := by decide +kernel
theorem dX11_ways_1 : decode cX11_ways 1 = .ok (.iload_n 1, 1) := by decide +kernel
theorem dX11_ways_2 : decode cX11_ways 2 = .ok (.invokevirtual 323, 3) := by decide +kernel
theorem dX11_ways_5 : decode cX11_ways 5 = .ok (.ifCond .eq 15, 3) := by decide +kernel
theorem dX11_ways_20 : decode cX11_ways 20 = .ok (.iconst (-1), 1) := by decide +kernel
theorem dX11_ways_21 : decode cX11_ways 21 = .ok (.ireturn, 1) := by decide +kernel
theorem hd_X11_in : yX11_in.cls ≠ "java/lang/invoke/MethodHandle" ∧ yX11_in.cls ≠ "java/lang/invoke/VarHandle" ∧ (parseMethodDescriptor yX11_in.desc).map (fun d => d.parameters.length) = some 3 := ⟨by decide +kernel, by decide +kernel, by decide +kernel⟩
theorem hd_X11_isCorner : yX11_isCorner.cls ≠ "java/lang/invoke/MethodHandle" ∧ yX11_isCorner.cls ≠ "java/lang/invoke/VarHandle" ∧ (parseMethodDescriptor yX11_isCorner.desc).map (fun d => d.parameters.length) = some 1 := ⟨by decide +kernel, by decide +kernel, by decide +kernel⟩
theorem hd_X11_isLaid : yX11_isLaid.cls ≠ "java/lang/invoke/MethodHandle" ∧ yX11_isLaid.cls ≠ "java/lang/invoke/VarHandle" ∧ (parseMethodDescriptor yX11_isLaid.desc).map (fun d => d.parameters.length) = some 1 := ⟨by decide +kernel, by decide +kernel, by decide +kernel⟩
theorem hd_X11_isRule : yX11_isRule.cls ≠ "java/lang/invoke/MethodHandle" ∧ yX11_isRule.cls ≠ "java/lang/invoke/VarHandle" ∧ (parseMethodDescriptor yX11_isRule.desc).map (fun d => d.parameters.length) = some 1 := ⟨by decide +kernel, by decide +kernel, by decide +kernel⟩
theorem hd_X11_isTown : yX11_isTown.cls ≠ "java/lang/invoke/MethodHandle" ∧ yX11_isTown.cls ≠ "java/lang/invoke/VarHandle" ∧ (parseMethodDescriptor yX11_isTown.desc).map (fun d => d.parameters.length) = some 0 := ⟨by decide +kernel, by decide +kernel, by decide +kernel⟩
theorem hd_X11_isWalker : yX11_isWalker.cls ≠ "java/lang/invoke/MethodHandle" ∧ yX11_isWalker.cls ≠ "java/lang/invoke/VarHandle" ∧ (parseMethodDescriptor yX11_isWalker.desc).map (fun d => d.parameters.length) = some 1 := ⟨by decide +kernel, by decide +kernel, by decide +kernel⟩
set_option maxHeartbeats 4000000 in
set_option maxRecDepth 100000 in
theorem r_lure (l : Launch) (D : va_G) (K : Nat → ClassId) (h0 : Nat) (m_tape : Nat) (m_sign : Nat) (m_length : Nat) (m_clause : Nat) (m_clauses : Nat) (m_read : Nat) (m_open : Nat) (m_stack : Nat) (m_word : Nat) (m_said : Nat) (m_goesTo : Nat) (m_hadBy : Nat) (m_wasSaid : Nat) (m_kept : Nat) (m_hasBy : Nat) (m_standsThen : Nat) (m_isFit : Nat) (m_cornerThen : Nat) (m_images : Nat) (m_imageForce : Nat) (m_imageX : Nat) (m_isMade : Nat) (p1 : Int32) (p2 : Int32) : mI (S := mU) l yX11_lure cX11_lure 3 .int ({ frames := 1, cells := 0, slots := 0, locals := 21 }) D K [(h0, .inr (11, [.ref m_tape, .int 0, .int 0, .ref m_sign, .ref m_length, .ref m_clause, .ref m_clauses, .ref m_read, .int 0, .int 0, .int 0, .int 0, .int 0, .int 0, .int 0, .ref m_open, .int 0, .ref m_stack, .int 0, .ref m_word, .ref m_said, .int (-1), .int 0, .ref m_goesTo, .ref m_hadBy, .ref m_wasSaid, .int 0, .ref m_kept, .ref m_hasBy, .ref m_standsThen, .ref m_isFit, .ref m_cornerThen, .long 0, .ref m_images, .ref m_imageForce, .ref m_imageX, .ref m_isMade])), (m_said, .inl (K 0, 127, .inl (fun _ => 0)))] [.ref h0, .int p1, .int p2] (fun r u => r = (-1)) (fun u => []) := by
  refine m_enterI (by decide) (Nat.le_of_ble_eq_true rfl) ?_
  intro p e s m args below meth c A ls E hr G hl
  have E : mE p s m meth c cX11_lure args 3 RX11 D K A := E
  have hl : lv_has ls 3 [(0, .ref h0), (1, .int p1), (2, .int p2)] := hl
  obtain ⟨H, hH⟩ : ∃ H, H = s.heap := ⟨_, rfl⟩
  obtain ⟨locs, hlo⟩ : ∃ L : List Loc, L = [] := ⟨_, rfl⟩
  rw [← hH, ← hlo] at G
  rw [← hH, ← hlo]
  have G : mG D A s H locs [(h0, .inr (11, [.ref m_tape, .int 0, .int 0, .ref m_sign, .ref m_length, .ref m_clause, .ref m_clauses, .ref m_read, .int 0, .int 0, .int 0, .int 0, .int 0, .int 0, .int 0, .ref m_open, .int 0, .ref m_stack, .int 0, .ref m_word, .ref m_said, .int (-1), .int 0, .ref m_goesTo, .ref m_hadBy, .ref m_wasSaid, .int 0, .ref m_kept, .ref m_hasBy, .ref m_standsThen, .ref m_isFit, .ref m_cornerThen, .long 0, .ref m_images, .ref m_imageForce, .ref m_imageX, .ref m_isMade])), (m_said, .inl (K 0, 127, .inl (fun _ => 0)))] := G
  clear hH hlo
  refine lv_aload_n E.1 E.2.1 dX11_lure_0 rfl (lv_at hl 0 rfl) ?_
  refine lv_iload_n E.1 E.2.1 dX11_lure_1 rfl (lv_at hl 1 rfl) ?_
  refine m_vi E G hl (r_isLure l D K h0 m_tape m_sign m_length m_clause m_clauses m_read m_open m_stack m_word m_said m_goesTo m_hadBy m_wasSaid m_kept m_hasBy m_standsThen m_isFit m_cornerThen m_images m_imageForce m_imageX m_isMade p1) (wr := []) [0, 1] [] rfl rfl (by decide) (by decide) (by decide) 0 (ci := 11) rfl rfl rfl 1 rfl mw_code_X11_isLure mw_ini_11 mw_ml_11_285 mw_inst_X11_isLure mw_sel_X11_isLure hd_X11_isLure ⟨by decide, by decide⟩ rfl (Nat.le_of_ble_eq_true rfl) ⟨by decide, by decide⟩ dX11_lure_2 (fun r_2 u_1 H locs hp G => ?_)
  have G : mG D A s H locs [] := G
  subst hp
  refine lv_if_ne (tgt := 10) E.1 E.2.1 dX11_lure_5 (by decide) (fun h => absurd (by decide) h) (fun _ => ?_)
  refine lv_iconst (v := (-1)) E.1 E.2.1 dX11_lure_8 (by decide) ?_
  exact m_reti E G hr rfl (fun _ => 0, fun _ _ => 0, fun _ _ => none) rfl [] (by decide) rfl (by decide) (by decide) dX11_lure_9
set_option maxHeartbeats 4000000 in
set_option maxRecDepth 100000 in
theorem r_walker (l : Launch) (D : va_G) (K : Nat → ClassId) (h0 : Nat) (m_tape : Nat) (m_sign : Nat) (m_length : Nat) (m_clause : Nat) (m_clauses : Nat) (m_read : Nat) (m_open : Nat) (m_stack : Nat) (m_word : Nat) (m_said : Nat) (m_goesTo : Nat) (m_hadBy : Nat) (m_wasSaid : Nat) (m_kept : Nat) (m_hasBy : Nat) (m_standsThen : Nat) (m_isFit : Nat) (m_cornerThen : Nat) (m_images : Nat) (m_imageForce : Nat) (m_imageX : Nat) (m_isMade : Nat) (p1 : Int32) (p2 : Int32) : mI (S := mU) l yX11_walker cX11_walker 3 .int ({ frames := 1, cells := 0, slots := 0, locals := 21 }) D K [(h0, .inr (11, [.ref m_tape, .int 0, .int 0, .ref m_sign, .ref m_length, .ref m_clause, .ref m_clauses, .ref m_read, .int 0, .int 0, .int 0, .int 0, .int 0, .int 0, .int 0, .ref m_open, .int 0, .ref m_stack, .int 0, .ref m_word, .ref m_said, .int (-1), .int 0, .ref m_goesTo, .ref m_hadBy, .ref m_wasSaid, .int 0, .ref m_kept, .ref m_hasBy, .ref m_standsThen, .ref m_isFit, .ref m_cornerThen, .long 0, .ref m_images, .ref m_imageForce, .ref m_imageX, .ref m_isMade])), (m_said, .inl (K 0, 127, .inl (fun _ => 0)))] [.ref h0, .int p1, .int p2] (fun r u => r = (-1)) (fun u => []) := by
  refine m_enterI (by decide) (Nat.le_of_ble_eq_true rfl) ?_
  intro p e s m args below meth c A ls E hr G hl
  have E : mE p s m meth c cX11_walker args 3 RX11 D K A := E
  have hl : lv_has ls 3 [(0, .ref h0), (1, .int p1), (2, .int p2)] := hl
  obtain ⟨H, hH⟩ : ∃ H, H = s.heap := ⟨_, rfl⟩
  obtain ⟨locs, hlo⟩ : ∃ L : List Loc, L = [] := ⟨_, rfl⟩
  rw [← hH, ← hlo] at G
  rw [← hH, ← hlo]
  have G : mG D A s H locs [(h0, .inr (11, [.ref m_tape, .int 0, .int 0, .ref m_sign, .ref m_length, .ref m_clause, .ref m_clauses, .ref m_read, .int 0, .int 0, .int 0, .int 0, .int 0, .int 0, .int 0, .ref m_open, .int 0, .ref m_stack, .int 0, .ref m_word, .ref m_said, .int (-1), .int 0, .ref m_goesTo, .ref m_hadBy, .ref m_wasSaid, .int 0, .ref m_kept, .ref m_hasBy, .ref m_standsThen, .ref m_isFit, .ref m_cornerThen, .long 0, .ref m_images, .ref m_imageForce, .ref m_imageX, .ref m_isMade])), (m_said, .inl (K 0, 127, .inl (fun _ => 0)))] := G
  clear hH hlo
  refine lv_aload_n E.1 E.2.1 dX11_walker_0 rfl (lv_at hl 0 rfl) ?_
  refine lv_iload_n E.1 E.2.1 dX11_walker_1 rfl (lv_at hl 1 rfl) ?_
  refine m_vi E G hl (r_isWalker l D K h0 m_tape m_sign m_length m_clause m_clauses m_read m_open m_stack m_word m_said m_goesTo m_hadBy m_wasSaid m_kept m_hasBy m_standsThen m_isFit m_cornerThen m_images m_imageForce m_imageX m_isMade p1) (wr := []) [0, 1] [] rfl rfl (by decide) (by decide) (by decide) 0 (ci := 11) rfl rfl rfl 1 rfl mw_code_X11_isWalker mw_ini_11 mw_ml_11_317 mw_inst_X11_isWalker mw_sel_X11_isWalker hd_X11_isWalker ⟨by decide, by decide⟩ rfl (Nat.le_of_ble_eq_true rfl) ⟨by decide, by decide⟩ dX11_walker_2 (fun r_2 u_1 H locs hp G => ?_)
  have G : mG D A s H locs [] := G
  subst hp
  refine lv_if_ne (tgt := 10) E.1 E.2.1 dX11_walker_5 (by decide) (fun h => absurd (by decide) h) (fun _ => ?_)
  refine lv_iconst (v := (-1)) E.1 E.2.1 dX11_walker_8 (by decide) ?_
  exact m_reti E G hr rfl (fun _ => 0, fun _ _ => 0, fun _ _ => none) rfl [] (by decide) rfl (by decide) (by decide) dX11_walker_9
set_option maxHeartbeats 4000000 in
set_option maxRecDepth 100000 in
theorem r_ways (l : Launch) (D : va_G) (K : Nat → ClassId) (h0 : Nat) (m_tape : Nat) (m_sign : Nat) (m_length : Nat) (m_clause : Nat) (m_clauses : Nat) (m_read : Nat) (m_open : Nat) (m_stack : Nat) (m_word : Nat) (m_said : Nat) (m_goesTo : Nat) (m_hadBy : Nat) (m_wasSaid : Nat) (m_kept : Nat) (m_hasBy : Nat) (m_standsThen : Nat) (m_isFit : Nat) (m_cornerThen : Nat) (m_images : Nat) (m_imageForce : Nat) (m_imageX : Nat) (m_isMade : Nat) (p1 : Int32) : mI (S := mU) l yX11_ways cX11_ways 2 .int ({ frames := 1, cells := 0, slots := 0, locals := 21 }) D K [(h0, .inr (11, [.ref m_tape, .int 0, .int 0, .ref m_sign, .ref m_length, .ref m_clause, .ref m_clauses, .ref m_read, .int 0, .int 0, .int 0, .int 0, .int 0, .int 0, .int 0, .ref m_open, .int 0, .ref m_stack, .int 0, .ref m_word, .ref m_said, .int (-1), .int 0, .ref m_goesTo, .ref m_hadBy, .ref m_wasSaid, .int 0, .ref m_kept, .ref m_hasBy, .ref m_standsThen, .ref m_isFit, .ref m_cornerThen, .long 0, .ref m_images, .ref m_imageForce, .ref m_imageX, .ref m_isMade])), (m_said, .inl (K 0, 127, .inl (fun _ => 0)))] [.ref h0, .int p1] (fun r u => r = (-1)) (fun u => []) := by
  refine m_enterI (by decide) (Nat.le_of_ble_eq_true rfl) ?_
  intro p e s m args below meth c A ls E hr G hl
  have E : mE p s m meth c cX11_ways args 2 RX11 D K A := E
  have hl : lv_has ls 2 [(0, .ref h0), (1, .int p1)] := hl
  obtain ⟨H, hH⟩ : ∃ H, H = s.heap := ⟨_, rfl⟩
  obtain ⟨locs, hlo⟩ : ∃ L : List Loc, L = [] := ⟨_, rfl⟩
  rw [← hH, ← hlo] at G
  rw [← hH, ← hlo]
  have G : mG D A s H locs [(h0, .inr (11, [.ref m_tape, .int 0, .int 0, .ref m_sign, .ref m_length, .ref m_clause, .ref m_clauses, .ref m_read, .int 0, .int 0, .int 0, .int 0, .int 0, .int 0, .int 0, .ref m_open, .int 0, .ref m_stack, .int 0, .ref m_word, .ref m_said, .int (-1), .int 0, .ref m_goesTo, .ref m_hadBy, .ref m_wasSaid, .int 0, .ref m_kept, .ref m_hasBy, .ref m_standsThen, .ref m_isFit, .ref m_cornerThen, .long 0, .ref m_images, .ref m_imageForce, .ref m_imageX, .ref m_isMade])), (m_said, .inl (K 0, 127, .inl (fun _ => 0)))] := G
  clear hH hlo
  refine lv_aload_n E.1 E.2.1 dX11_ways_0 rfl (lv_at hl 0 rfl) ?_
  refine lv_iload_n E.1 E.2.1 dX11_ways_1 rfl (lv_at hl 1 rfl) ?_
  refine m_vi E G hl (r_isCorner l D K h0 m_tape m_sign m_length m_clause m_clauses m_read m_open m_stack m_word m_said m_goesTo m_hadBy m_wasSaid m_kept m_hasBy m_standsThen m_isFit m_cornerThen m_images m_imageForce m_imageX m_isMade p1) (wr := []) [0, 1] [] rfl rfl (by decide) (by decide) (by decide) 0 (ci := 11) rfl rfl rfl 1 rfl mw_code_X11_isCorner mw_ini_11 mw_ml_11_323 mw_inst_X11_isCorner mw_sel_X11_isCorner hd_X11_isCorner ⟨by decide, by decide⟩ rfl (Nat.le_of_ble_eq_true rfl) ⟨by decide, by decide⟩ dX11_ways_2 (fun r_2 u_1 H locs hp G => ?_)
  have G : mG D A s H locs [] := G
  subst hp
  refine lv_if_eq (tgt := 20) E.1 E.2.1 dX11_ways_5 (by decide) (fun _ => ?_) (fun h => absurd (by decide) h)
  refine lv_iconst (v := (-1)) E.1 E.2.1 dX11_ways_20 (by decide) ?_
  exact m_reti E G hr rfl (fun _ => 0, fun _ _ => 0, fun _ _ => none) rfl [] (by decide) rfl (by decide) (by decide) dX11_ways_21
set_option maxHeartbeats 4000000 in
set_option maxRecDepth 100000 in
theorem r_step (l : Launch) (D : va_G) (K : Nat → ClassId) (h0 : Nat) (m_tape : Nat) (m_sign : Nat) (m_length : Nat) (m_clause : Nat) (m_clauses : Nat) (m_read : Nat) (m_open : Nat) (m_stack : Nat) (m_word : Nat) (m_said : Nat) (m_goesTo : Nat) (m_hadBy : Nat) (m_wasSaid : Nat) (m_kept : Nat) (m_hasBy : Nat) (m_standsThen : Nat) (m_isFit : Nat) (m_cornerThen : Nat) (m_images : Nat) (m_imageForce : Nat) (m_imageX : Nat) (m_isMade : Nat) : mI (S := mU) l yX11_step cX11_step 1 .int ({ frames := 1, cells := 0, slots := 0, locals := 20 }) D K [(h0, .inr (11, [.ref m_tape, .int 0, .int 0, .ref m_sign, .ref m_length, .ref m_clause, .ref m_clauses, .ref m_read, .int 0, .int 0, .int 0, .int 0, .int 0, .int 0, .int 0, .ref m_open, .int 0, .ref m_stack, .int 0, .ref m_word, .ref m_said, .int (-1), .int 0, .ref m_goesTo, .ref m_hadBy, .ref m_wasSaid, .int 0, .ref m_kept, .ref m_hasBy, .ref m_standsThen, .ref m_isFit, .ref m_cornerThen, .long 0, .ref m_images, .ref m_imageForce, .ref m_imageX, .ref m_isMade])), (m_said, .inl (K 0, 127, .inl (fun _ => 0)))] [.ref h0] (fun r u => r = (-1)) (fun u => []) := by
  refine m_enterI (by decide) (Nat.le_of_ble_eq_true rfl) ?_
  intro p e s m args below meth c A ls E hr G hl
  have E : mE p s m meth c cX11_step args 1 RX11 D K A := E
  have hl : lv_has ls 1 [(0, .ref h0)] := hl
  obtain ⟨H, hH⟩ : ∃ H, H = s.heap := ⟨_, rfl⟩
  obtain ⟨locs, hlo⟩ : ∃ L : List Loc, L = [] := ⟨_, rfl⟩
  rw [← hH, ← hlo] at G
  rw [← hH, ← hlo]
  have G : mG D A s H locs [(h0, .inr (11, [.ref m_tape, .int 0, .int 0, .ref m_sign, .ref m_length, .ref m_clause, .ref m_clauses, .ref m_read, .int 0, .int 0, .int 0, .int 0, .int 0, .int 0, .int 0, .ref m_open, .int 0, .ref m_stack, .int 0, .ref m_word, .ref m_said, .int (-1), .int 0, .ref m_goesTo, .ref m_hadBy, .ref m_wasSaid, .int 0, .ref m_kept, .ref m_hasBy, .ref m_standsThen, .ref m_isFit, .ref m_cornerThen, .long 0, .ref m_images, .ref m_imageForce, .ref m_imageX, .ref m_isMade])), (m_said, .inl (K 0, 127, .inl (fun _ => 0)))] := G
  clear hH hlo
  refine lv_aload_n E.1 E.2.1 dX11_step_0 rfl (lv_at hl 0 rfl) ?_
  refine m_vi E G hl (r_isTown l D K h0 m_tape m_sign m_length m_clause m_clauses m_read m_open m_stack m_word m_said m_goesTo m_hadBy m_wasSaid m_kept m_hasBy m_standsThen m_isFit m_cornerThen m_images m_imageForce m_imageX m_isMade) (wr := []) [0, 1] [] rfl rfl (by decide) (by decide) (by decide) 0 (ci := 11) rfl rfl rfl 0 rfl mw_code_X11_isTown mw_ini_11 mw_ml_11_359 mw_inst_X11_isTown mw_sel_X11_isTown hd_X11_isTown ⟨by decide, by decide⟩ rfl (Nat.le_of_ble_eq_true rfl) ⟨by decide, by decide⟩ dX11_step_1 (fun r_2 u_1 H locs hp G => ?_)
  have G : mG D A s H locs [] := G
  subst hp
  refine lv_if_eq (tgt := 20) E.1 E.2.1 dX11_step_4 (by decide) (fun _ => ?_) (fun h => absurd (by decide) h)
  refine lv_iconst (v := (-1)) E.1 E.2.1 dX11_step_20 (by decide) ?_
  exact m_reti E G hr rfl (fun _ => 0, fun _ _ => 0, fun _ _ => none) rfl [] (by decide) rfl (by decide) (by decide) dX11_step_21
set_option maxHeartbeats 4000000 in
set_option maxRecDepth 100000 in
theorem r_set (l : Launch) (D : va_G) (K : Nat → ClassId) (h0 : Nat) (m_tape : Nat) (m_sign : Nat) (m_length : Nat) (m_clause : Nat) (m_clauses : Nat) (m_read : Nat) (m_open : Nat) (m_stack : Nat) (m_word : Nat) (m_said : Nat) (m_goesTo : Nat) (m_hadBy : Nat) (m_wasSaid : Nat) (m_kept : Nat) (m_hasBy : Nat) (m_standsThen : Nat) (m_isFit : Nat) (m_cornerThen : Nat) (m_images : Nat) (m_imageForce : Nat) (m_imageX : Nat) (m_isMade : Nat) (p1 : Int32) (p2 : Int32) : mI (S := mU) l yX11_set cX11_set 4 .int ({ frames := 1, cells := 0, slots := 0, locals := 21 }) D K [(h0, .inr (11, [.ref m_tape, .int 0, .int 0, .ref m_sign, .ref m_length, .ref m_clause, .ref m_clauses, .ref m_read, .int 0, .int 0, .int 0, .int 0, .int 0, .int 0, .int 0, .ref m_open, .int 0, .ref m_stack, .int 0, .ref m_word, .ref m_said, .int (-1), .int 0, .ref m_goesTo, .ref m_hadBy, .ref m_wasSaid, .int 0, .ref m_kept, .ref m_hasBy, .ref m_standsThen, .ref m_isFit, .ref m_cornerThen, .long 0, .ref m_images, .ref m_imageForce, .ref m_imageX, .ref m_isMade])), (m_said, .inl (K 0, 127, .inl (fun _ => 0)))] [.ref h0, .int p1, .int p2] (fun r u => r = (-1)) (fun u => []) := by
  refine m_enterI (by decide) (Nat.le_of_ble_eq_true rfl) ?_
  intro p e s m args below meth c A ls E hr G hl
  have E : mE p s m meth c cX11_set args 4 RX11 D K A := E
  have hl : lv_has ls 4 [(0, .ref h0), (1, .int p1), (2, .int p2)] := hl
  obtain ⟨H, hH⟩ : ∃ H, H = s.heap := ⟨_, rfl⟩
  obtain ⟨locs, hlo⟩ : ∃ L : List Loc, L = [] := ⟨_, rfl⟩
  rw [← hH, ← hlo] at G
  rw [← hH, ← hlo]
  have G : mG D A s H locs [(h0, .inr (11, [.ref m_tape, .int 0, .int 0, .ref m_sign, .ref m_length, .ref m_clause, .ref m_clauses, .ref m_read, .int 0, .int 0, .int 0, .int 0, .int 0, .int 0, .int 0, .ref m_open, .int 0, .ref m_stack, .int 0, .ref m_word, .ref m_said, .int (-1), .int 0, .ref m_goesTo, .ref m_hadBy, .ref m_wasSaid, .int 0, .ref m_kept, .ref m_hasBy, .ref m_standsThen, .ref m_isFit, .ref m_cornerThen, .long 0, .ref m_images, .ref m_imageForce, .ref m_imageX, .ref m_isMade])), (m_said, .inl (K 0, 127, .inl (fun _ => 0)))] := G
  clear hH hlo
  refine lv_aload_n E.1 E.2.1 dX11_set_0 rfl (lv_at hl 0 rfl) ?_
  refine lv_iload_n E.1 E.2.1 dX11_set_1 rfl (lv_at hl 1 rfl) ?_
  refine m_vi E G hl (r_isLure l D K h0 m_tape m_sign m_length m_clause m_clauses m_read m_open m_stack m_word m_said m_goesTo m_hadBy m_wasSaid m_kept m_hasBy m_standsThen m_isFit m_cornerThen m_images m_imageForce m_imageX m_isMade p1) (wr := []) [0, 1] [] rfl rfl (by decide) (by decide) (by decide) 0 (ci := 11) rfl rfl rfl 1 rfl mw_code_X11_isLure mw_ini_11 mw_ml_11_285 mw_inst_X11_isLure mw_sel_X11_isLure hd_X11_isLure ⟨by decide, by decide⟩ rfl (Nat.le_of_ble_eq_true rfl) ⟨by decide, by decide⟩ dX11_set_2 (fun r_2 u_1 H locs hp G => ?_)
  have G : mG D A s H locs [] := G
  subst hp
  refine lv_if_eq (tgt := 24) E.1 E.2.1 dX11_set_5 (by decide) (fun _ => ?_) (fun h => absurd (by decide) h)
  refine lv_iconst (v := (-1)) E.1 E.2.1 dX11_set_24 (by decide) ?_
  exact m_reti E G hr rfl (fun _ => 0, fun _ _ => 0, fun _ _ => none) rfl [] (by decide) rfl (by decide) (by decide) dX11_set_25
set_option maxHeartbeats 4000000 in
set_option maxRecDepth 100000 in
theorem r_move (l : Launch) (D : va_G) (K : Nat → ClassId) (h0 : Nat) (m_tape : Nat) (m_sign : Nat) (m_length : Nat) (m_clause : Nat) (m_clauses : Nat) (m_read : Nat) (m_open : Nat) (m_stack : Nat) (m_word : Nat) (m_said : Nat) (m_goesTo : Nat) (m_hadBy : Nat) (m_wasSaid : Nat) (m_kept : Nat) (m_hasBy : Nat) (m_standsThen : Nat) (m_isFit : Nat) (m_cornerThen : Nat) (m_images : Nat) (m_imageForce : Nat) (m_imageX : Nat) (m_isMade : Nat) (p1 : Int32) (p2 : Int32) : mI (S := mU) l yX11_move cX11_move 4 .int ({ frames := 2, cells := 0, slots := 0, locals := 42 }) D K [(h0, .inr (11, [.ref m_tape, .int 0, .int 0, .ref m_sign, .ref m_length, .ref m_clause, .ref m_clauses, .ref m_read, .int 0, .int 0, .int 0, .int 0, .int 0, .int 0, .int 0, .ref m_open, .int 0, .ref m_stack, .int 0, .ref m_word, .ref m_said, .int (-1), .int 0, .ref m_goesTo, .ref m_hadBy, .ref m_wasSaid, .int 0, .ref m_kept, .ref m_hasBy, .ref m_standsThen, .ref m_isFit, .ref m_cornerThen, .long 0, .ref m_images, .ref m_imageForce, .ref m_imageX, .ref m_isMade])), (m_said, .inl (K 0, 127, .inl (fun _ => 0)))] [.ref h0, .int p1, .int p2] (fun r u => r = (-1)) (fun u => []) := by
  refine m_enterI (by decide) (Nat.le_of_ble_eq_true rfl) ?_
  intro p e s m args below meth c A ls E hr G hl
  have E : mE p s m meth c cX11_move args 4 RX11 D K A := E
  have hl : lv_has ls 4 [(0, .ref h0), (1, .int p1), (2, .int p2)] := hl
  obtain ⟨H, hH⟩ : ∃ H, H = s.heap := ⟨_, rfl⟩
  obtain ⟨locs, hlo⟩ : ∃ L : List Loc, L = [] := ⟨_, rfl⟩
  rw [← hH, ← hlo] at G
  rw [← hH, ← hlo]
  have G : mG D A s H locs [(h0, .inr (11, [.ref m_tape, .int 0, .int 0, .ref m_sign, .ref m_length, .ref m_clause, .ref m_clauses, .ref m_read, .int 0, .int 0, .int 0, .int 0, .int 0, .int 0, .int 0, .ref m_open, .int 0, .ref m_stack, .int 0, .ref m_word, .ref m_said, .int (-1), .int 0, .ref m_goesTo, .ref m_hadBy, .ref m_wasSaid, .int 0, .ref m_kept, .ref m_hasBy, .ref m_standsThen, .ref m_isFit, .ref m_cornerThen, .long 0, .ref m_images, .ref m_imageForce, .ref m_imageX, .ref m_isMade])), (m_said, .inl (K 0, 127, .inl (fun _ => 0)))] := G
  clear hH hlo
  refine lv_aload_n E.1 E.2.1 dX11_move_0 rfl (lv_at hl 0 rfl) ?_
  refine lv_iload_n E.1 E.2.1 dX11_move_1 rfl (lv_at hl 1 rfl) ?_
  refine m_vi E G hl (r_isLaid l D K h0 m_tape m_sign m_length m_clause m_clauses m_read m_open m_stack m_word m_said m_goesTo m_hadBy m_wasSaid m_kept m_hasBy m_standsThen m_isFit m_cornerThen m_images m_imageForce m_imageX m_isMade p1) (wr := []) [0, 1] [] rfl rfl (by decide) (by decide) (by decide) 0 (ci := 11) rfl rfl rfl 1 rfl mw_code_X11_isLaid mw_ini_11 mw_ml_11_288 mw_inst_X11_isLaid mw_sel_X11_isLaid hd_X11_isLaid ⟨by decide, by decide⟩ rfl (Nat.le_of_ble_eq_true rfl) ⟨by decide, by decide⟩ dX11_move_2 (fun r_2 u_1 H locs hp G => ?_)
  have G : mG D A s H locs [] := G
  subst hp
  refine lv_if_eq (tgt := 25) E.1 E.2.1 dX11_move_5 (by decide) (fun _ => ?_) (fun h => absurd (by decide) h)
  refine lv_iconst (v := (-1)) E.1 E.2.1 dX11_move_25 (by decide) ?_
  exact m_reti E G hr rfl (fun _ => 0, fun _ _ => 0, fun _ _ => none) rfl [] (by decide) rfl (by decide) (by decide) dX11_move_26
set_option maxHeartbeats 4000000 in
set_option maxRecDepth 100000 in
theorem r_bait (l : Launch) (D : va_G) (K : Nat → ClassId) (h0 : Nat) (m_tape : Nat) (m_sign : Nat) (m_length : Nat) (m_clause : Nat) (m_clauses : Nat) (m_read : Nat) (m_open : Nat) (m_stack : Nat) (m_word : Nat) (m_said : Nat) (m_goesTo : Nat) (m_hadBy : Nat) (m_wasSaid : Nat) (m_kept : Nat) (m_hasBy : Nat) (m_standsThen : Nat) (m_isFit : Nat) (m_cornerThen : Nat) (m_images : Nat) (m_imageForce : Nat) (m_imageX : Nat) (m_isMade : Nat) (p1 : Int32) (p2 : Int32) : mI (S := mU) l yX11_bait cX11_bait 4 .int ({ frames := 1, cells := 0, slots := 0, locals := 21 }) D K [(h0, .inr (11, [.ref m_tape, .int 0, .int 0, .ref m_sign, .ref m_length, .ref m_clause, .ref m_clauses, .ref m_read, .int 0, .int 0, .int 0, .int 0, .int 0, .int 0, .int 0, .ref m_open, .int 0, .ref m_stack, .int 0, .ref m_word, .ref m_said, .int (-1), .int 0, .ref m_goesTo, .ref m_hadBy, .ref m_wasSaid, .int 0, .ref m_kept, .ref m_hasBy, .ref m_standsThen, .ref m_isFit, .ref m_cornerThen, .long 0, .ref m_images, .ref m_imageForce, .ref m_imageX, .ref m_isMade])), (m_said, .inl (K 0, 127, .inl (fun _ => 0)))] [.ref h0, .int p1, .int p2] (fun r u => r = (-1)) (fun u => []) := by
  refine m_enterI (by decide) (Nat.le_of_ble_eq_true rfl) ?_
  intro p e s m args below meth c A ls E hr G hl
  have E : mE p s m meth c cX11_bait args 4 RX11 D K A := E
  have hl : lv_has ls 4 [(0, .ref h0), (1, .int p1), (2, .int p2)] := hl
  obtain ⟨H, hH⟩ : ∃ H, H = s.heap := ⟨_, rfl⟩
  obtain ⟨locs, hlo⟩ : ∃ L : List Loc, L = [] := ⟨_, rfl⟩
  rw [← hH, ← hlo] at G
  rw [← hH, ← hlo]
  have G : mG D A s H locs [(h0, .inr (11, [.ref m_tape, .int 0, .int 0, .ref m_sign, .ref m_length, .ref m_clause, .ref m_clauses, .ref m_read, .int 0, .int 0, .int 0, .int 0, .int 0, .int 0, .int 0, .ref m_open, .int 0, .ref m_stack, .int 0, .ref m_word, .ref m_said, .int (-1), .int 0, .ref m_goesTo, .ref m_hadBy, .ref m_wasSaid, .int 0, .ref m_kept, .ref m_hasBy, .ref m_standsThen, .ref m_isFit, .ref m_cornerThen, .long 0, .ref m_images, .ref m_imageForce, .ref m_imageX, .ref m_isMade])), (m_said, .inl (K 0, 127, .inl (fun _ => 0)))] := G
  clear hH hlo
  refine lv_aload_n E.1 E.2.1 dX11_bait_0 rfl (lv_at hl 0 rfl) ?_
  refine lv_iload_n E.1 E.2.1 dX11_bait_1 rfl (lv_at hl 1 rfl) ?_
  refine m_vi E G hl (r_isLure l D K h0 m_tape m_sign m_length m_clause m_clauses m_read m_open m_stack m_word m_said m_goesTo m_hadBy m_wasSaid m_kept m_hasBy m_standsThen m_isFit m_cornerThen m_images m_imageForce m_imageX m_isMade p1) (wr := []) [0, 1] [] rfl rfl (by decide) (by decide) (by decide) 0 (ci := 11) rfl rfl rfl 1 rfl mw_code_X11_isLure mw_ini_11 mw_ml_11_285 mw_inst_X11_isLure mw_sel_X11_isLure hd_X11_isLure ⟨by decide, by decide⟩ rfl (Nat.le_of_ble_eq_true rfl) ⟨by decide, by decide⟩ dX11_bait_2 (fun r_2 u_1 H locs hp G => ?_)
  have G : mG D A s H locs [] := G
  subst hp
  refine lv_if_eq (tgt := 29) E.1 E.2.1 dX11_bait_5 (by decide) (fun _ => ?_) (fun h => absurd (by decide) h)
  refine lv_iconst (v := (-1)) E.1 E.2.1 dX11_bait_29 (by decide) ?_
  exact m_reti E G hr rfl (fun _ => 0, fun _ _ => 0, fun _ _ => none) rfl [] (by decide) rfl (by decide) (by decide) dX11_bait_30
set_option maxHeartbeats 4000000 in
set_option maxRecDepth 100000 in
theorem r_calm (l : Launch) (D : va_G) (K : Nat → ClassId) (h0 : Nat) (m_tape : Nat) (m_sign : Nat) (m_length : Nat) (m_clause : Nat) (m_clauses : Nat) (m_read : Nat) (m_open : Nat) (m_stack : Nat) (m_word : Nat) (m_said : Nat) (m_goesTo : Nat) (m_hadBy : Nat) (m_wasSaid : Nat) (m_kept : Nat) (m_hasBy : Nat) (m_standsThen : Nat) (m_isFit : Nat) (m_cornerThen : Nat) (m_images : Nat) (m_imageForce : Nat) (m_imageX : Nat) (m_isMade : Nat) (p1 : Int32) (p2 : Int32) : mI (S := mU) l yX11_calm cX11_calm 4 .int ({ frames := 1, cells := 0, slots := 0, locals := 21 }) D K [(h0, .inr (11, [.ref m_tape, .int 0, .int 0, .ref m_sign, .ref m_length, .ref m_clause, .ref m_clauses, .ref m_read, .int 0, .int 0, .int 0, .int 0, .int 0, .int 0, .int 0, .ref m_open, .int 0, .ref m_stack, .int 0, .ref m_word, .ref m_said, .int (-1), .int 0, .ref m_goesTo, .ref m_hadBy, .ref m_wasSaid, .int 0, .ref m_kept, .ref m_hasBy, .ref m_standsThen, .ref m_isFit, .ref m_cornerThen, .long 0, .ref m_images, .ref m_imageForce, .ref m_imageX, .ref m_isMade])), (m_said, .inl (K 0, 127, .inl (fun _ => 0)))] [.ref h0, .int p1, .int p2] (fun r u => r = (-1)) (fun u => []) := by
  refine m_enterI (by decide) (Nat.le_of_ble_eq_true rfl) ?_
  intro p e s m args below meth c A ls E hr G hl
  have E : mE p s m meth c cX11_calm args 4 RX11 D K A := E
  have hl : lv_has ls 4 [(0, .ref h0), (1, .int p1), (2, .int p2)] := hl
  obtain ⟨H, hH⟩ : ∃ H, H = s.heap := ⟨_, rfl⟩
  obtain ⟨locs, hlo⟩ : ∃ L : List Loc, L = [] := ⟨_, rfl⟩
  rw [← hH, ← hlo] at G
  rw [← hH, ← hlo]
  have G : mG D A s H locs [(h0, .inr (11, [.ref m_tape, .int 0, .int 0, .ref m_sign, .ref m_length, .ref m_clause, .ref m_clauses, .ref m_read, .int 0, .int 0, .int 0, .int 0, .int 0, .int 0, .int 0, .ref m_open, .int 0, .ref m_stack, .int 0, .ref m_word, .ref m_said, .int (-1), .int 0, .ref m_goesTo, .ref m_hadBy, .ref m_wasSaid, .int 0, .ref m_kept, .ref m_hasBy, .ref m_standsThen, .ref m_isFit, .ref m_cornerThen, .long 0, .ref m_images, .ref m_imageForce, .ref m_imageX, .ref m_isMade])), (m_said, .inl (K 0, 127, .inl (fun _ => 0)))] := G
  clear hH hlo
  refine lv_aload_n E.1 E.2.1 dX11_calm_0 rfl (lv_at hl 0 rfl) ?_
  refine lv_iload_n E.1 E.2.1 dX11_calm_1 rfl (lv_at hl 1 rfl) ?_
  refine m_vi E G hl (r_isWalker l D K h0 m_tape m_sign m_length m_clause m_clauses m_read m_open m_stack m_word m_said m_goesTo m_hadBy m_wasSaid m_kept m_hasBy m_standsThen m_isFit m_cornerThen m_images m_imageForce m_imageX m_isMade p1) (wr := []) [0, 1] [] rfl rfl (by decide) (by decide) (by decide) 0 (ci := 11) rfl rfl rfl 1 rfl mw_code_X11_isWalker mw_ini_11 mw_ml_11_317 mw_inst_X11_isWalker mw_sel_X11_isWalker hd_X11_isWalker ⟨by decide, by decide⟩ rfl (Nat.le_of_ble_eq_true rfl) ⟨by decide, by decide⟩ dX11_calm_2 (fun r_2 u_1 H locs hp G => ?_)
  have G : mG D A s H locs [] := G
  subst hp
  refine lv_if_eq (tgt := 29) E.1 E.2.1 dX11_calm_5 (by decide) (fun _ => ?_) (fun h => absurd (by decide) h)
  refine lv_iconst (v := (-1)) E.1 E.2.1 dX11_calm_29 (by decide) ?_
  exact m_reti E G hr rfl (fun _ => 0, fun _ _ => 0, fun _ _ => none) rfl [] (by decide) rfl (by decide) (by decide) dX11_calm_30
set_option maxHeartbeats 4000000 in
set_option maxRecDepth 100000 in
theorem r_ahead (l : Launch) (D : va_G) (K : Nat → ClassId) (h0 : Nat) (m_tape : Nat) (m_sign : Nat) (m_length : Nat) (m_clause : Nat) (m_clauses : Nat) (m_read : Nat) (m_open : Nat) (m_stack : Nat) (m_word : Nat) (m_said : Nat) (m_goesTo : Nat) (m_hadBy : Nat) (m_wasSaid : Nat) (m_kept : Nat) (m_hasBy : Nat) (m_standsThen : Nat) (m_isFit : Nat) (m_cornerThen : Nat) (m_images : Nat) (m_imageForce : Nat) (m_imageX : Nat) (m_isMade : Nat) (p1 : Int32) (p2 : Int32) (p3 : Int32) : mI (S := mU) l yX11_ahead cX11_ahead 5 .int ({ frames := 1, cells := 0, slots := 0, locals := 20 }) D K [(h0, .inr (11, [.ref m_tape, .int 0, .int 0, .ref m_sign, .ref m_length, .ref m_clause, .ref m_clauses, .ref m_read, .int 0, .int 0, .int 0, .int 0, .int 0, .int 0, .int 0, .ref m_open, .int 0, .ref m_stack, .int 0, .ref m_word, .ref m_said, .int (-1), .int 0, .ref m_goesTo, .ref m_hadBy, .ref m_wasSaid, .int 0, .ref m_kept, .ref m_hasBy, .ref m_standsThen, .ref m_isFit, .ref m_cornerThen, .long 0, .ref m_images, .ref m_imageForce, .ref m_imageX, .ref m_isMade])), (m_said, .inl (K 0, 127, .inl (fun _ => 0)))] [.ref h0, .int p1, .int p2, .int p3] (fun r u => r = (-1)) (fun u => []) := by
  refine m_enterI (by decide) (Nat.le_of_ble_eq_true rfl) ?_
  intro p e s m args below meth c A ls E hr G hl
  have E : mE p s m meth c cX11_ahead args 5 RX11 D K A := E
  have hl : lv_has ls 5 [(0, .ref h0), (1, .int p1), (2, .int p2), (3, .int p3)] := hl
  obtain ⟨H, hH⟩ : ∃ H, H = s.heap := ⟨_, rfl⟩
  obtain ⟨locs, hlo⟩ : ∃ L : List Loc, L = [] := ⟨_, rfl⟩
  rw [← hH, ← hlo] at G
  rw [← hH, ← hlo]
  have G : mG D A s H locs [(h0, .inr (11, [.ref m_tape, .int 0, .int 0, .ref m_sign, .ref m_length, .ref m_clause, .ref m_clauses, .ref m_read, .int 0, .int 0, .int 0, .int 0, .int 0, .int 0, .int 0, .ref m_open, .int 0, .ref m_stack, .int 0, .ref m_word, .ref m_said, .int (-1), .int 0, .ref m_goesTo, .ref m_hadBy, .ref m_wasSaid, .int 0, .ref m_kept, .ref m_hasBy, .ref m_standsThen, .ref m_isFit, .ref m_cornerThen, .long 0, .ref m_images, .ref m_imageForce, .ref m_imageX, .ref m_isMade])), (m_said, .inl (K 0, 127, .inl (fun _ => 0)))] := G
  clear hH hlo
  refine lv_aload_n E.1 E.2.1 dX11_ahead_0 rfl (lv_at hl 0 rfl) ?_
  refine m_vi E G hl (r_isTown l D K h0 m_tape m_sign m_length m_clause m_clauses m_read m_open m_stack m_word m_said m_goesTo m_hadBy m_wasSaid m_kept m_hasBy m_standsThen m_isFit m_cornerThen m_images m_imageForce m_imageX m_isMade) (wr := []) [0, 1] [] rfl rfl (by decide) (by decide) (by decide) 0 (ci := 11) rfl rfl rfl 0 rfl mw_code_X11_isTown mw_ini_11 mw_ml_11_359 mw_inst_X11_isTown mw_sel_X11_isTown hd_X11_isTown ⟨by decide, by decide⟩ rfl (Nat.le_of_ble_eq_true rfl) ⟨by decide, by decide⟩ dX11_ahead_1 (fun r_2 u_1 H locs hp G => ?_)
  have G : mG D A s H locs [] := G
  subst hp
  refine lv_if_eq (tgt := 44) E.1 E.2.1 dX11_ahead_4 (by decide) (fun _ => ?_) (fun h => absurd (by decide) h)
  refine lv_iconst (v := (-1)) E.1 E.2.1 dX11_ahead_44 (by decide) ?_
  exact m_reti E G hr rfl (fun _ => 0, fun _ _ => 0, fun _ _ => none) rfl [] (by decide) rfl (by decide) (by decide) dX11_ahead_45
set_option maxHeartbeats 4000000 in
set_option maxRecDepth 100000 in
theorem r_had (l : Launch) (D : va_G) (K : Nat → ClassId) (h0 : Nat) (m_tape : Nat) (m_sign : Nat) (m_length : Nat) (m_clause : Nat) (m_clauses : Nat) (m_read : Nat) (m_open : Nat) (m_stack : Nat) (m_word : Nat) (m_said : Nat) (m_goesTo : Nat) (m_hadBy : Nat) (m_wasSaid : Nat) (m_kept : Nat) (m_hasBy : Nat) (m_standsThen : Nat) (m_isFit : Nat) (m_cornerThen : Nat) (m_images : Nat) (m_imageForce : Nat) (m_imageX : Nat) (m_isMade : Nat) (p1 : Int32) (p2 : Int32) : mI (S := mU) l yX11_had cX11_had 5 .int ({ frames := 1, cells := 0, slots := 0, locals := 21 }) D K [(h0, .inr (11, [.ref m_tape, .int 0, .int 0, .ref m_sign, .ref m_length, .ref m_clause, .ref m_clauses, .ref m_read, .int 0, .int 0, .int 0, .int 0, .int 0, .int 0, .int 0, .ref m_open, .int 0, .ref m_stack, .int 0, .ref m_word, .ref m_said, .int (-1), .int 0, .ref m_goesTo, .ref m_hadBy, .ref m_wasSaid, .int 0, .ref m_kept, .ref m_hasBy, .ref m_standsThen, .ref m_isFit, .ref m_cornerThen, .long 0, .ref m_images, .ref m_imageForce, .ref m_imageX, .ref m_isMade])), (m_said, .inl (K 0, 127, .inl (fun _ => 0)))] [.ref h0, .int p1, .int p2] (fun r u => r = (-1)) (fun u => []) := by
  refine m_enterI (by decide) (Nat.le_of_ble_eq_true rfl) ?_
  intro p e s m args below meth c A ls E hr G hl
  have E : mE p s m meth c cX11_had args 5 RX11 D K A := E
  have hl : lv_has ls 5 [(0, .ref h0), (1, .int p1), (2, .int p2)] := hl
  obtain ⟨H, hH⟩ : ∃ H, H = s.heap := ⟨_, rfl⟩
  obtain ⟨locs, hlo⟩ : ∃ L : List Loc, L = [] := ⟨_, rfl⟩
  rw [← hH, ← hlo] at G
  rw [← hH, ← hlo]
  have G : mG D A s H locs [(h0, .inr (11, [.ref m_tape, .int 0, .int 0, .ref m_sign, .ref m_length, .ref m_clause, .ref m_clauses, .ref m_read, .int 0, .int 0, .int 0, .int 0, .int 0, .int 0, .int 0, .ref m_open, .int 0, .ref m_stack, .int 0, .ref m_word, .ref m_said, .int (-1), .int 0, .ref m_goesTo, .ref m_hadBy, .ref m_wasSaid, .int 0, .ref m_kept, .ref m_hasBy, .ref m_standsThen, .ref m_isFit, .ref m_cornerThen, .long 0, .ref m_images, .ref m_imageForce, .ref m_imageX, .ref m_isMade])), (m_said, .inl (K 0, 127, .inl (fun _ => 0)))] := G
  clear hH hlo
  refine lv_aload_n E.1 E.2.1 dX11_had_0 rfl (lv_at hl 0 rfl) ?_
  refine lv_iload_n E.1 E.2.1 dX11_had_1 rfl (lv_at hl 1 rfl) ?_
  refine m_vi E G hl (r_isWalker l D K h0 m_tape m_sign m_length m_clause m_clauses m_read m_open m_stack m_word m_said m_goesTo m_hadBy m_wasSaid m_kept m_hasBy m_standsThen m_isFit m_cornerThen m_images m_imageForce m_imageX m_isMade p1) (wr := []) [0, 1] [] rfl rfl (by decide) (by decide) (by decide) 0 (ci := 11) rfl rfl rfl 1 rfl mw_code_X11_isWalker mw_ini_11 mw_ml_11_317 mw_inst_X11_isWalker mw_sel_X11_isWalker hd_X11_isWalker ⟨by decide, by decide⟩ rfl (Nat.le_of_ble_eq_true rfl) ⟨by decide, by decide⟩ dX11_had_2 (fun r_2 u_1 H locs hp G => ?_)
  have G : mG D A s H locs [] := G
  subst hp
  refine lv_if_eq (tgt := 18) E.1 E.2.1 dX11_had_5 (by decide) (fun _ => ?_) (fun h => absurd (by decide) h)
  refine lv_iconst (v := (-1)) E.1 E.2.1 dX11_had_18 (by decide) ?_
  exact m_reti E G hr rfl (fun _ => 0, fun _ _ => 0, fun _ _ => none) rfl [] (by decide) rfl (by decide) (by decide) dX11_had_19
set_option maxHeartbeats 4000000 in
set_option maxRecDepth 100000 in
theorem r_first (l : Launch) (D : va_G) (K : Nat → ClassId) (h0 : Nat) (m_tape : Nat) (m_sign : Nat) (m_length : Nat) (m_clause : Nat) (m_clauses : Nat) (m_read : Nat) (m_open : Nat) (m_stack : Nat) (m_word : Nat) (m_said : Nat) (m_goesTo : Nat) (m_hadBy : Nat) (m_wasSaid : Nat) (m_kept : Nat) (m_hasBy : Nat) (m_standsThen : Nat) (m_isFit : Nat) (m_cornerThen : Nat) (m_images : Nat) (m_imageForce : Nat) (m_imageX : Nat) (m_isMade : Nat) (p1 : Int32) : mI (S := mU) l yX11_first cX11_first 5 .int ({ frames := 1, cells := 0, slots := 0, locals := 20 }) D K [(h0, .inr (11, [.ref m_tape, .int 0, .int 0, .ref m_sign, .ref m_length, .ref m_clause, .ref m_clauses, .ref m_read, .int 0, .int 0, .int 0, .int 0, .int 0, .int 0, .int 0, .ref m_open, .int 0, .ref m_stack, .int 0, .ref m_word, .ref m_said, .int (-1), .int 0, .ref m_goesTo, .ref m_hadBy, .ref m_wasSaid, .int 0, .ref m_kept, .ref m_hasBy, .ref m_standsThen, .ref m_isFit, .ref m_cornerThen, .long 0, .ref m_images, .ref m_imageForce, .ref m_imageX, .ref m_isMade])), (m_said, .inl (K 0, 127, .inl (fun _ => 0)))] [.ref h0, .int p1] (fun r u => r = (-1)) (fun u => []) := by
  refine m_enterI (by decide) (Nat.le_of_ble_eq_true rfl) ?_
  intro p e s m args below meth c A ls E hr G hl
  have E : mE p s m meth c cX11_first args 5 RX11 D K A := E
  have hl : lv_has ls 5 [(0, .ref h0), (1, .int p1)] := hl
  obtain ⟨H, hH⟩ : ∃ H, H = s.heap := ⟨_, rfl⟩
  obtain ⟨locs, hlo⟩ : ∃ L : List Loc, L = [] := ⟨_, rfl⟩
  rw [← hH, ← hlo] at G
  rw [← hH, ← hlo]
  have G : mG D A s H locs [(h0, .inr (11, [.ref m_tape, .int 0, .int 0, .ref m_sign, .ref m_length, .ref m_clause, .ref m_clauses, .ref m_read, .int 0, .int 0, .int 0, .int 0, .int 0, .int 0, .int 0, .ref m_open, .int 0, .ref m_stack, .int 0, .ref m_word, .ref m_said, .int (-1), .int 0, .ref m_goesTo, .ref m_hadBy, .ref m_wasSaid, .int 0, .ref m_kept, .ref m_hasBy, .ref m_standsThen, .ref m_isFit, .ref m_cornerThen, .long 0, .ref m_images, .ref m_imageForce, .ref m_imageX, .ref m_isMade])), (m_said, .inl (K 0, 127, .inl (fun _ => 0)))] := G
  clear hH hlo
  refine lv_aload_n E.1 E.2.1 dX11_first_0 rfl (lv_at hl 0 rfl) ?_
  refine m_vi E G hl (r_isTown l D K h0 m_tape m_sign m_length m_clause m_clauses m_read m_open m_stack m_word m_said m_goesTo m_hadBy m_wasSaid m_kept m_hasBy m_standsThen m_isFit m_cornerThen m_images m_imageForce m_imageX m_isMade) (wr := []) [0, 1] [] rfl rfl (by decide) (by decide) (by decide) 0 (ci := 11) rfl rfl rfl 0 rfl mw_code_X11_isTown mw_ini_11 mw_ml_11_359 mw_inst_X11_isTown mw_sel_X11_isTown hd_X11_isTown ⟨by decide, by decide⟩ rfl (Nat.le_of_ble_eq_true rfl) ⟨by decide, by decide⟩ dX11_first_1 (fun r_2 u_1 H locs hp G => ?_)
  have G : mG D A s H locs [] := G
  subst hp
  refine lv_if_eq (tgt := 17) E.1 E.2.1 dX11_first_4 (by decide) (fun _ => ?_) (fun h => absurd (by decide) h)
  refine lv_iconst (v := (-1)) E.1 E.2.1 dX11_first_17 (by decide) ?_
  exact m_reti E G hr rfl (fun _ => 0, fun _ _ => 0, fun _ _ => none) rfl [] (by decide) rfl (by decide) (by decide) dX11_first_18
set_option maxHeartbeats 4000000 in
set_option maxRecDepth 100000 in
theorem r_far (l : Launch) (D : va_G) (K : Nat → ClassId) (h0 : Nat) (m_tape : Nat) (m_sign : Nat) (m_length : Nat) (m_clause : Nat) (m_clauses : Nat) (m_read : Nat) (m_open : Nat) (m_stack : Nat) (m_word : Nat) (m_said : Nat) (m_goesTo : Nat) (m_hadBy : Nat) (m_wasSaid : Nat) (m_kept : Nat) (m_hasBy : Nat) (m_standsThen : Nat) (m_isFit : Nat) (m_cornerThen : Nat) (m_images : Nat) (m_imageForce : Nat) (m_imageX : Nat) (m_isMade : Nat) (p1 : Int32) : mI (S := mU) l yX11_far cX11_far 2 .int ({ frames := 1, cells := 0, slots := 0, locals := 21 }) D K [(h0, .inr (11, [.ref m_tape, .int 0, .int 0, .ref m_sign, .ref m_length, .ref m_clause, .ref m_clauses, .ref m_read, .int 0, .int 0, .int 0, .int 0, .int 0, .int 0, .int 0, .ref m_open, .int 0, .ref m_stack, .int 0, .ref m_word, .ref m_said, .int (-1), .int 0, .ref m_goesTo, .ref m_hadBy, .ref m_wasSaid, .int 0, .ref m_kept, .ref m_hasBy, .ref m_standsThen, .ref m_isFit, .ref m_cornerThen, .long 0, .ref m_images, .ref m_imageForce, .ref m_imageX, .ref m_isMade])), (m_said, .inl (K 0, 127, .inl (fun _ => 0)))] [.ref h0, .int p1] (fun r u => r = (-1)) (fun u => []) := by
  refine m_enterI (by decide) (Nat.le_of_ble_eq_true rfl) ?_
  intro p e s m args below meth c A ls E hr G hl
  have E : mE p s m meth c cX11_far args 2 RX11 D K A := E
  have hl : lv_has ls 2 [(0, .ref h0), (1, .int p1)] := hl
  obtain ⟨H, hH⟩ : ∃ H, H = s.heap := ⟨_, rfl⟩
  obtain ⟨locs, hlo⟩ : ∃ L : List Loc, L = [] := ⟨_, rfl⟩
  rw [← hH, ← hlo] at G
  rw [← hH, ← hlo]
  have G : mG D A s H locs [(h0, .inr (11, [.ref m_tape, .int 0, .int 0, .ref m_sign, .ref m_length, .ref m_clause, .ref m_clauses, .ref m_read, .int 0, .int 0, .int 0, .int 0, .int 0, .int 0, .int 0, .ref m_open, .int 0, .ref m_stack, .int 0, .ref m_word, .ref m_said, .int (-1), .int 0, .ref m_goesTo, .ref m_hadBy, .ref m_wasSaid, .int 0, .ref m_kept, .ref m_hasBy, .ref m_standsThen, .ref m_isFit, .ref m_cornerThen, .long 0, .ref m_images, .ref m_imageForce, .ref m_imageX, .ref m_isMade])), (m_said, .inl (K 0, 127, .inl (fun _ => 0)))] := G
  clear hH hlo
  refine lv_aload_n E.1 E.2.1 dX11_far_0 rfl (lv_at hl 0 rfl) ?_
  refine lv_iload_n E.1 E.2.1 dX11_far_1 rfl (lv_at hl 1 rfl) ?_
  refine m_vi E G hl (r_isWalker l D K h0 m_tape m_sign m_length m_clause m_clauses m_read m_open m_stack m_word m_said m_goesTo m_hadBy m_wasSaid m_kept m_hasBy m_standsThen m_isFit m_cornerThen m_images m_imageForce m_imageX m_isMade p1) (wr := []) [0, 1] [] rfl rfl (by decide) (by decide) (by decide) 0 (ci := 11) rfl rfl rfl 1 rfl mw_code_X11_isWalker mw_ini_11 mw_ml_11_317 mw_inst_X11_isWalker mw_sel_X11_isWalker hd_X11_isWalker ⟨by decide, by decide⟩ rfl (Nat.le_of_ble_eq_true rfl) ⟨by decide, by decide⟩ dX11_far_2 (fun r_2 u_1 H locs hp G => ?_)
  have G : mG D A s H locs [] := G
  subst hp
  refine lv_if_eq (tgt := 24) E.1 E.2.1 dX11_far_5 (by decide) (fun _ => ?_) (fun h => absurd (by decide) h)
  refine lv_iconst (v := (-1)) E.1 E.2.1 dX11_far_24 (by decide) ?_
  exact m_reti E G hr rfl (fun _ => 0, fun _ _ => 0, fun _ _ => none) rfl [] (by decide) rfl (by decide) (by decide) dX11_far_25
set_option maxHeartbeats 4000000 in
set_option maxRecDepth 100000 in
theorem r_safe (l : Launch) (D : va_G) (K : Nat → ClassId) (h0 : Nat) (m_tape : Nat) (m_sign : Nat) (m_length : Nat) (m_clause : Nat) (m_clauses : Nat) (m_read : Nat) (m_open : Nat) (m_stack : Nat) (m_word : Nat) (m_said : Nat) (m_goesTo : Nat) (m_hadBy : Nat) (m_wasSaid : Nat) (m_kept : Nat) (m_hasBy : Nat) (m_standsThen : Nat) (m_isFit : Nat) (m_cornerThen : Nat) (m_images : Nat) (m_imageForce : Nat) (m_imageX : Nat) (m_isMade : Nat) (p1 : Int32) : mI (S := mU) l yX11_safe cX11_safe 2 .int ({ frames := 1, cells := 0, slots := 0, locals := 21 }) D K [(h0, .inr (11, [.ref m_tape, .int 0, .int 0, .ref m_sign, .ref m_length, .ref m_clause, .ref m_clauses, .ref m_read, .int 0, .int 0, .int 0, .int 0, .int 0, .int 0, .int 0, .ref m_open, .int 0, .ref m_stack, .int 0, .ref m_word, .ref m_said, .int (-1), .int 0, .ref m_goesTo, .ref m_hadBy, .ref m_wasSaid, .int 0, .ref m_kept, .ref m_hasBy, .ref m_standsThen, .ref m_isFit, .ref m_cornerThen, .long 0, .ref m_images, .ref m_imageForce, .ref m_imageX, .ref m_isMade])), (m_said, .inl (K 0, 127, .inl (fun _ => 0)))] [.ref h0, .int p1] (fun r u => r = (-1)) (fun u => []) := by
  refine m_enterI (by decide) (Nat.le_of_ble_eq_true rfl) ?_
  intro p e s m args below meth c A ls E hr G hl
  have E : mE p s m meth c cX11_safe args 2 RX11 D K A := E
  have hl : lv_has ls 2 [(0, .ref h0), (1, .int p1)] := hl
  obtain ⟨H, hH⟩ : ∃ H, H = s.heap := ⟨_, rfl⟩
  obtain ⟨locs, hlo⟩ : ∃ L : List Loc, L = [] := ⟨_, rfl⟩
  rw [← hH, ← hlo] at G
  rw [← hH, ← hlo]
  have G : mG D A s H locs [(h0, .inr (11, [.ref m_tape, .int 0, .int 0, .ref m_sign, .ref m_length, .ref m_clause, .ref m_clauses, .ref m_read, .int 0, .int 0, .int 0, .int 0, .int 0, .int 0, .int 0, .ref m_open, .int 0, .ref m_stack, .int 0, .ref m_word, .ref m_said, .int (-1), .int 0, .ref m_goesTo, .ref m_hadBy, .ref m_wasSaid, .int 0, .ref m_kept, .ref m_hasBy, .ref m_standsThen, .ref m_isFit, .ref m_cornerThen, .long 0, .ref m_images, .ref m_imageForce, .ref m_imageX, .ref m_isMade])), (m_said, .inl (K 0, 127, .inl (fun _ => 0)))] := G
  clear hH hlo
  refine lv_aload_n E.1 E.2.1 dX11_safe_0 rfl (lv_at hl 0 rfl) ?_
  refine lv_iload_n E.1 E.2.1 dX11_safe_1 rfl (lv_at hl 1 rfl) ?_
  refine m_vi E G hl (r_isWalker l D K h0 m_tape m_sign m_length m_clause m_clauses m_read m_open m_stack m_word m_said m_goesTo m_hadBy m_wasSaid m_kept m_hasBy m_standsThen m_isFit m_cornerThen m_images m_imageForce m_imageX m_isMade p1) (wr := []) [0, 1] [] rfl rfl (by decide) (by decide) (by decide) 0 (ci := 11) rfl rfl rfl 1 rfl mw_code_X11_isWalker mw_ini_11 mw_ml_11_317 mw_inst_X11_isWalker mw_sel_X11_isWalker hd_X11_isWalker ⟨by decide, by decide⟩ rfl (Nat.le_of_ble_eq_true rfl) ⟨by decide, by decide⟩ dX11_safe_2 (fun r_2 u_1 H locs hp G => ?_)
  have G : mG D A s H locs [] := G
  subst hp
  refine lv_if_eq (tgt := 37) E.1 E.2.1 dX11_safe_5 (by decide) (fun _ => ?_) (fun h => absurd (by decide) h)
  refine lv_iconst (v := (-1)) E.1 E.2.1 dX11_safe_37 (by decide) ?_
  exact m_reti E G hr rfl (fun _ => 0, fun _ _ => 0, fun _ _ => none) rfl [] (by decide) rfl (by decide) (by decide) dX11_safe_38
set_option maxHeartbeats 4000000 in
set_option maxRecDepth 100000 in
theorem r_stuck (l : Launch) (D : va_G) (K : Nat → ClassId) (h0 : Nat) (m_tape : Nat) (m_sign : Nat) (m_length : Nat) (m_clause : Nat) (m_clauses : Nat) (m_read : Nat) (m_open : Nat) (m_stack : Nat) (m_word : Nat) (m_said : Nat) (m_goesTo : Nat) (m_hadBy : Nat) (m_wasSaid : Nat) (m_kept : Nat) (m_hasBy : Nat) (m_standsThen : Nat) (m_isFit : Nat) (m_cornerThen : Nat) (m_images : Nat) (m_imageForce : Nat) (m_imageX : Nat) (m_isMade : Nat) (p1 : Int32) : mI (S := mU) l yX11_stuck cX11_stuck 6 .int ({ frames := 1, cells := 0, slots := 0, locals := 21 }) D K [(h0, .inr (11, [.ref m_tape, .int 0, .int 0, .ref m_sign, .ref m_length, .ref m_clause, .ref m_clauses, .ref m_read, .int 0, .int 0, .int 0, .int 0, .int 0, .int 0, .int 0, .ref m_open, .int 0, .ref m_stack, .int 0, .ref m_word, .ref m_said, .int (-1), .int 0, .ref m_goesTo, .ref m_hadBy, .ref m_wasSaid, .int 0, .ref m_kept, .ref m_hasBy, .ref m_standsThen, .ref m_isFit, .ref m_cornerThen, .long 0, .ref m_images, .ref m_imageForce, .ref m_imageX, .ref m_isMade])), (m_said, .inl (K 0, 127, .inl (fun _ => 0)))] [.ref h0, .int p1] (fun r u => r = (-1)) (fun u => []) := by
  refine m_enterI (by decide) (Nat.le_of_ble_eq_true rfl) ?_
  intro p e s m args below meth c A ls E hr G hl
  have E : mE p s m meth c cX11_stuck args 6 RX11 D K A := E
  have hl : lv_has ls 6 [(0, .ref h0), (1, .int p1)] := hl
  obtain ⟨H, hH⟩ : ∃ H, H = s.heap := ⟨_, rfl⟩
  obtain ⟨locs, hlo⟩ : ∃ L : List Loc, L = [] := ⟨_, rfl⟩
  rw [← hH, ← hlo] at G
  rw [← hH, ← hlo]
  have G : mG D A s H locs [(h0, .inr (11, [.ref m_tape, .int 0, .int 0, .ref m_sign, .ref m_length, .ref m_clause, .ref m_clauses, .ref m_read, .int 0, .int 0, .int 0, .int 0, .int 0, .int 0, .int 0, .ref m_open, .int 0, .ref m_stack, .int 0, .ref m_word, .ref m_said, .int (-1), .int 0, .ref m_goesTo, .ref m_hadBy, .ref m_wasSaid, .int 0, .ref m_kept, .ref m_hasBy, .ref m_standsThen, .ref m_isFit, .ref m_cornerThen, .long 0, .ref m_images, .ref m_imageForce, .ref m_imageX, .ref m_isMade])), (m_said, .inl (K 0, 127, .inl (fun _ => 0)))] := G
  clear hH hlo
  refine lv_aload_n E.1 E.2.1 dX11_stuck_0 rfl (lv_at hl 0 rfl) ?_
  refine lv_iload_n E.1 E.2.1 dX11_stuck_1 rfl (lv_at hl 1 rfl) ?_
  refine m_vi E G hl (r_isWalker l D K h0 m_tape m_sign m_length m_clause m_clauses m_read m_open m_stack m_word m_said m_goesTo m_hadBy m_wasSaid m_kept m_hasBy m_standsThen m_isFit m_cornerThen m_images m_imageForce m_imageX m_isMade p1) (wr := []) [0, 1] [] rfl rfl (by decide) (by decide) (by decide) 0 (ci := 11) rfl rfl rfl 1 rfl mw_code_X11_isWalker mw_ini_11 mw_ml_11_317 mw_inst_X11_isWalker mw_sel_X11_isWalker hd_X11_isWalker ⟨by decide, by decide⟩ rfl (Nat.le_of_ble_eq_true rfl) ⟨by decide, by decide⟩ dX11_stuck_2 (fun r_2 u_1 H locs hp G => ?_)
  have G : mG D A s H locs [] := G
  subst hp
  refine lv_if_ne (tgt := 10) E.1 E.2.1 dX11_stuck_5 (by decide) (fun h => absurd (by decide) h) (fun _ => ?_)
  refine lv_iconst (v := (-1)) E.1 E.2.1 dX11_stuck_8 (by decide) ?_
  exact m_reti E G hr rfl (fun _ => 0, fun _ _ => 0, fun _ _ => none) rfl [] (by decide) rfl (by decide) (by decide) dX11_stuck_9
set_option maxHeartbeats 4000000 in
set_option maxRecDepth 100000 in
theorem r_best (l : Launch) (D : va_G) (K : Nat → ClassId) (h0 : Nat) (m_tape : Nat) (m_sign : Nat) (m_length : Nat) (m_clause : Nat) (m_clauses : Nat) (m_read : Nat) (m_open : Nat) (m_stack : Nat) (m_word : Nat) (m_said : Nat) (m_goesTo : Nat) (m_hadBy : Nat) (m_wasSaid : Nat) (m_kept : Nat) (m_hasBy : Nat) (m_standsThen : Nat) (m_isFit : Nat) (m_cornerThen : Nat) (m_images : Nat) (m_imageForce : Nat) (m_imageX : Nat) (m_isMade : Nat) (p1 : Int32) (p2 : Int32) (p3 : Int32) : mI (S := mU) l yX11_best cX11_best 4 .int ({ frames := 2, cells := 0, slots := 0, locals := 42 }) D K [(h0, .inr (11, [.ref m_tape, .int 0, .int 0, .ref m_sign, .ref m_length, .ref m_clause, .ref m_clauses, .ref m_read, .int 0, .int 0, .int 0, .int 0, .int 0, .int 0, .int 0, .ref m_open, .int 0, .ref m_stack, .int 0, .ref m_word, .ref m_said, .int (-1), .int 0, .ref m_goesTo, .ref m_hadBy, .ref m_wasSaid, .int 0, .ref m_kept, .ref m_hasBy, .ref m_standsThen, .ref m_isFit, .ref m_cornerThen, .long 0, .ref m_images, .ref m_imageForce, .ref m_imageX, .ref m_isMade])), (m_said, .inl (K 0, 127, .inl (fun _ => 0)))] [.ref h0, .int p1, .int p2, .int p3] (fun r u => r = (-1)) (fun u => []) := by
  refine m_enterI (by decide) (Nat.le_of_ble_eq_true rfl) ?_
  intro p e s m args below meth c A ls E hr G hl
  have E : mE p s m meth c cX11_best args 4 RX11 D K A := E
  have hl : lv_has ls 4 [(0, .ref h0), (1, .int p1), (2, .int p2), (3, .int p3)] := hl
  obtain ⟨H, hH⟩ : ∃ H, H = s.heap := ⟨_, rfl⟩
  obtain ⟨locs, hlo⟩ : ∃ L : List Loc, L = [] := ⟨_, rfl⟩
  rw [← hH, ← hlo] at G
  rw [← hH, ← hlo]
  have G : mG D A s H locs [(h0, .inr (11, [.ref m_tape, .int 0, .int 0, .ref m_sign, .ref m_length, .ref m_clause, .ref m_clauses, .ref m_read, .int 0, .int 0, .int 0, .int 0, .int 0, .int 0, .int 0, .ref m_open, .int 0, .ref m_stack, .int 0, .ref m_word, .ref m_said, .int (-1), .int 0, .ref m_goesTo, .ref m_hadBy, .ref m_wasSaid, .int 0, .ref m_kept, .ref m_hasBy, .ref m_standsThen, .ref m_isFit, .ref m_cornerThen, .long 0, .ref m_images, .ref m_imageForce, .ref m_imageX, .ref m_isMade])), (m_said, .inl (K 0, 127, .inl (fun _ => 0)))] := G
  clear hH hlo
  refine lv_aload_n E.1 E.2.1 dX11_best_0 rfl (lv_at hl 0 rfl) ?_
  refine lv_iload_n E.1 E.2.1 dX11_best_1 rfl (lv_at hl 1 rfl) ?_
  refine m_vi E G hl (r_isLaid l D K h0 m_tape m_sign m_length m_clause m_clauses m_read m_open m_stack m_word m_said m_goesTo m_hadBy m_wasSaid m_kept m_hasBy m_standsThen m_isFit m_cornerThen m_images m_imageForce m_imageX m_isMade p1) (wr := []) [0, 1] [] rfl rfl (by decide) (by decide) (by decide) 0 (ci := 11) rfl rfl rfl 1 rfl mw_code_X11_isLaid mw_ini_11 mw_ml_11_288 mw_inst_X11_isLaid mw_sel_X11_isLaid hd_X11_isLaid ⟨by decide, by decide⟩ rfl (Nat.le_of_ble_eq_true rfl) ⟨by decide, by decide⟩ dX11_best_2 (fun r_2 u_1 H locs hp G => ?_)
  have G : mG D A s H locs [] := G
  subst hp
  refine lv_if_eq (tgt := 51) E.1 E.2.1 dX11_best_5 (by decide) (fun _ => ?_) (fun h => absurd (by decide) h)
  refine lv_iconst (v := (-1)) E.1 E.2.1 dX11_best_51 (by decide) ?_
  exact m_reti E G hr rfl (fun _ => 0, fun _ _ => 0, fun _ _ => none) rfl [] (by decide) rfl (by decide) (by decide) dX11_best_52
set_option maxHeartbeats 4000000 in
set_option maxRecDepth 100000 in
theorem r_kind (l : Launch) (D : va_G) (K : Nat → ClassId) (h0 : Nat) (m_tape : Nat) (m_sign : Nat) (m_length : Nat) (m_clause : Nat) (m_clauses : Nat) (m_read : Nat) (m_open : Nat) (m_stack : Nat) (m_word : Nat) (m_said : Nat) (m_goesTo : Nat) (m_hadBy : Nat) (m_wasSaid : Nat) (m_kept : Nat) (m_hasBy : Nat) (m_standsThen : Nat) (m_isFit : Nat) (m_cornerThen : Nat) (m_images : Nat) (m_imageForce : Nat) (m_imageX : Nat) (m_isMade : Nat) (p1 : Int32) (p2 : Int32) (p3 : Int32) : mI (S := mU) l yX11_kind cX11_kind 4 .int ({ frames := 2, cells := 0, slots := 0, locals := 42 }) D K [(h0, .inr (11, [.ref m_tape, .int 0, .int 0, .ref m_sign, .ref m_length, .ref m_clause, .ref m_clauses, .ref m_read, .int 0, .int 0, .int 0, .int 0, .int 0, .int 0, .int 0, .ref m_open, .int 0, .ref m_stack, .int 0, .ref m_word, .ref m_said, .int (-1), .int 0, .ref m_goesTo, .ref m_hadBy, .ref m_wasSaid, .int 0, .ref m_kept, .ref m_hasBy, .ref m_standsThen, .ref m_isFit, .ref m_cornerThen, .long 0, .ref m_images, .ref m_imageForce, .ref m_imageX, .ref m_isMade])), (m_said, .inl (K 0, 127, .inl (fun _ => 0)))] [.ref h0, .int p1, .int p2, .int p3] (fun r u => r = (-1)) (fun u => []) := by
  refine m_enterI (by decide) (Nat.le_of_ble_eq_true rfl) ?_
  intro p e s m args below meth c A ls E hr G hl
  have E : mE p s m meth c cX11_kind args 4 RX11 D K A := E
  have hl : lv_has ls 4 [(0, .ref h0), (1, .int p1), (2, .int p2), (3, .int p3)] := hl
  obtain ⟨H, hH⟩ : ∃ H, H = s.heap := ⟨_, rfl⟩
  obtain ⟨locs, hlo⟩ : ∃ L : List Loc, L = [] := ⟨_, rfl⟩
  rw [← hH, ← hlo] at G
  rw [← hH, ← hlo]
  have G : mG D A s H locs [(h0, .inr (11, [.ref m_tape, .int 0, .int 0, .ref m_sign, .ref m_length, .ref m_clause, .ref m_clauses, .ref m_read, .int 0, .int 0, .int 0, .int 0, .int 0, .int 0, .int 0, .ref m_open, .int 0, .ref m_stack, .int 0, .ref m_word, .ref m_said, .int (-1), .int 0, .ref m_goesTo, .ref m_hadBy, .ref m_wasSaid, .int 0, .ref m_kept, .ref m_hasBy, .ref m_standsThen, .ref m_isFit, .ref m_cornerThen, .long 0, .ref m_images, .ref m_imageForce, .ref m_imageX, .ref m_isMade])), (m_said, .inl (K 0, 127, .inl (fun _ => 0)))] := G
  clear hH hlo
  refine lv_aload_n E.1 E.2.1 dX11_kind_0 rfl (lv_at hl 0 rfl) ?_
  refine lv_iload_n E.1 E.2.1 dX11_kind_1 rfl (lv_at hl 1 rfl) ?_
  refine m_vi E G hl (r_isLaid l D K h0 m_tape m_sign m_length m_clause m_clauses m_read m_open m_stack m_word m_said m_goesTo m_hadBy m_wasSaid m_kept m_hasBy m_standsThen m_isFit m_cornerThen m_images m_imageForce m_imageX m_isMade p1) (wr := []) [0, 1] [] rfl rfl (by decide) (by decide) (by decide) 0 (ci := 11) rfl rfl rfl 1 rfl mw_code_X11_isLaid mw_ini_11 mw_ml_11_288 mw_inst_X11_isLaid mw_sel_X11_isLaid hd_X11_isLaid ⟨by decide, by decide⟩ rfl (Nat.le_of_ble_eq_true rfl) ⟨by decide, by decide⟩ dX11_kind_2 (fun r_2 u_1 H locs hp G => ?_)
  have G : mG D A s H locs [] := G
  subst hp
  refine lv_if_eq (tgt := 49) E.1 E.2.1 dX11_kind_5 (by decide) (fun _ => ?_) (fun h => absurd (by decide) h)
  refine lv_iconst (v := (-1)) E.1 E.2.1 dX11_kind_49 (by decide) ?_
  exact m_reti E G hr rfl (fun _ => 0, fun _ _ => 0, fun _ _ => none) rfl [] (by decide) rfl (by decide) (by decide) dX11_kind_50
set_option maxHeartbeats 4000000 in
set_option maxRecDepth 100000 in
theorem r_cover (l : Launch) (D : va_G) (K : Nat → ClassId) (h0 : Nat) (m_tape : Nat) (m_sign : Nat) (m_length : Nat) (m_clause : Nat) (m_clauses : Nat) (m_read : Nat) (m_open : Nat) (m_stack : Nat) (m_word : Nat) (m_said : Nat) (m_goesTo : Nat) (m_hadBy : Nat) (m_wasSaid : Nat) (m_kept : Nat) (m_hasBy : Nat) (m_standsThen : Nat) (m_isFit : Nat) (m_cornerThen : Nat) (m_images : Nat) (m_imageForce : Nat) (m_imageX : Nat) (m_isMade : Nat) (p1 : Int32) : mI (S := mU) l yX11_cover cX11_cover 4 .int ({ frames := 1, cells := 0, slots := 0, locals := 20 }) D K [(h0, .inr (11, [.ref m_tape, .int 0, .int 0, .ref m_sign, .ref m_length, .ref m_clause, .ref m_clauses, .ref m_read, .int 0, .int 0, .int 0, .int 0, .int 0, .int 0, .int 0, .ref m_open, .int 0, .ref m_stack, .int 0, .ref m_word, .ref m_said, .int (-1), .int 0, .ref m_goesTo, .ref m_hadBy, .ref m_wasSaid, .int 0, .ref m_kept, .ref m_hasBy, .ref m_standsThen, .ref m_isFit, .ref m_cornerThen, .long 0, .ref m_images, .ref m_imageForce, .ref m_imageX, .ref m_isMade])), (m_said, .inl (K 0, 127, .inl (fun _ => 0)))] [.ref h0, .int p1] (fun r u => r = (-1)) (fun u => []) := by
  refine m_enterI (by decide) (Nat.le_of_ble_eq_true rfl) ?_
  intro p e s m args below meth c A ls E hr G hl
  have E : mE p s m meth c cX11_cover args 4 RX11 D K A := E
  have hl : lv_has ls 4 [(0, .ref h0), (1, .int p1)] := hl
  obtain ⟨H, hH⟩ : ∃ H, H = s.heap := ⟨_, rfl⟩
  obtain ⟨locs, hlo⟩ : ∃ L : List Loc, L = [] := ⟨_, rfl⟩
  rw [← hH, ← hlo] at G
  rw [← hH, ← hlo]
  have G : mG D A s H locs [(h0, .inr (11, [.ref m_tape, .int 0, .int 0, .ref m_sign, .ref m_length, .ref m_clause, .ref m_clauses, .ref m_read, .int 0, .int 0, .int 0, .int 0, .int 0, .int 0, .int 0, .ref m_open, .int 0, .ref m_stack, .int 0, .ref m_word, .ref m_said, .int (-1), .int 0, .ref m_goesTo, .ref m_hadBy, .ref m_wasSaid, .int 0, .ref m_kept, .ref m_hasBy, .ref m_standsThen, .ref m_isFit, .ref m_cornerThen, .long 0, .ref m_images, .ref m_imageForce, .ref m_imageX, .ref m_isMade])), (m_said, .inl (K 0, 127, .inl (fun _ => 0)))] := G
  clear hH hlo
  refine lv_aload_n E.1 E.2.1 dX11_cover_0 rfl (lv_at hl 0 rfl) ?_
  refine m_vi E G hl (r_isTown l D K h0 m_tape m_sign m_length m_clause m_clauses m_read m_open m_stack m_word m_said m_goesTo m_hadBy m_wasSaid m_kept m_hasBy m_standsThen m_isFit m_cornerThen m_images m_imageForce m_imageX m_isMade) (wr := []) [0, 1] [] rfl rfl (by decide) (by decide) (by decide) 0 (ci := 11) rfl rfl rfl 0 rfl mw_code_X11_isTown mw_ini_11 mw_ml_11_359 mw_inst_X11_isTown mw_sel_X11_isTown hd_X11_isTown ⟨by decide, by decide⟩ rfl (Nat.le_of_ble_eq_true rfl) ⟨by decide, by decide⟩ dX11_cover_1 (fun r_2 u_1 H locs hp G => ?_)
  have G : mG D A s H locs [] := G
  subst hp
  refine lv_if_eq (tgt := 17) E.1 E.2.1 dX11_cover_4 (by decide) (fun _ => ?_) (fun h => absurd (by decide) h)
  refine lv_iconst (v := (-1)) E.1 E.2.1 dX11_cover_17 (by decide) ?_
  exact m_reti E G hr rfl (fun _ => 0, fun _ _ => 0, fun _ _ => none) rfl [] (by decide) rfl (by decide) (by decide) dX11_cover_18
set_option maxHeartbeats 4000000 in
set_option maxRecDepth 100000 in
theorem r_hearts (l : Launch) (D : va_G) (K : Nat → ClassId) (h0 : Nat) (m_tape : Nat) (m_sign : Nat) (m_length : Nat) (m_clause : Nat) (m_clauses : Nat) (m_read : Nat) (m_open : Nat) (m_stack : Nat) (m_word : Nat) (m_said : Nat) (m_goesTo : Nat) (m_hadBy : Nat) (m_wasSaid : Nat) (m_kept : Nat) (m_hasBy : Nat) (m_standsThen : Nat) (m_isFit : Nat) (m_cornerThen : Nat) (m_images : Nat) (m_imageForce : Nat) (m_imageX : Nat) (m_isMade : Nat) (p1 : Int32) : mI (S := mU) l yX11_hearts cX11_hearts 2 .int ({ frames := 1, cells := 0, slots := 0, locals := 21 }) D K [(h0, .inr (11, [.ref m_tape, .int 0, .int 0, .ref m_sign, .ref m_length, .ref m_clause, .ref m_clauses, .ref m_read, .int 0, .int 0, .int 0, .int 0, .int 0, .int 0, .int 0, .ref m_open, .int 0, .ref m_stack, .int 0, .ref m_word, .ref m_said, .int (-1), .int 0, .ref m_goesTo, .ref m_hadBy, .ref m_wasSaid, .int 0, .ref m_kept, .ref m_hasBy, .ref m_standsThen, .ref m_isFit, .ref m_cornerThen, .long 0, .ref m_images, .ref m_imageForce, .ref m_imageX, .ref m_isMade])), (m_said, .inl (K 0, 127, .inl (fun _ => 0)))] [.ref h0, .int p1] (fun r u => r = (-1)) (fun u => []) := by
  refine m_enterI (by decide) (Nat.le_of_ble_eq_true rfl) ?_
  intro p e s m args below meth c A ls E hr G hl
  have E : mE p s m meth c cX11_hearts args 2 RX11 D K A := E
  have hl : lv_has ls 2 [(0, .ref h0), (1, .int p1)] := hl
  obtain ⟨H, hH⟩ : ∃ H, H = s.heap := ⟨_, rfl⟩
  obtain ⟨locs, hlo⟩ : ∃ L : List Loc, L = [] := ⟨_, rfl⟩
  rw [← hH, ← hlo] at G
  rw [← hH, ← hlo]
  have G : mG D A s H locs [(h0, .inr (11, [.ref m_tape, .int 0, .int 0, .ref m_sign, .ref m_length, .ref m_clause, .ref m_clauses, .ref m_read, .int 0, .int 0, .int 0, .int 0, .int 0, .int 0, .int 0, .ref m_open, .int 0, .ref m_stack, .int 0, .ref m_word, .ref m_said, .int (-1), .int 0, .ref m_goesTo, .ref m_hadBy, .ref m_wasSaid, .int 0, .ref m_kept, .ref m_hasBy, .ref m_standsThen, .ref m_isFit, .ref m_cornerThen, .long 0, .ref m_images, .ref m_imageForce, .ref m_imageX, .ref m_isMade])), (m_said, .inl (K 0, 127, .inl (fun _ => 0)))] := G
  clear hH hlo
  refine lv_aload_n E.1 E.2.1 dX11_hearts_0 rfl (lv_at hl 0 rfl) ?_
  refine lv_iload_n E.1 E.2.1 dX11_hearts_1 rfl (lv_at hl 1 rfl) ?_
  refine m_vi E G hl (r_isWalker l D K h0 m_tape m_sign m_length m_clause m_clauses m_read m_open m_stack m_word m_said m_goesTo m_hadBy m_wasSaid m_kept m_hasBy m_standsThen m_isFit m_cornerThen m_images m_imageForce m_imageX m_isMade p1) (wr := []) [0, 1] [] rfl rfl (by decide) (by decide) (by decide) 0 (ci := 11) rfl rfl rfl 1 rfl mw_code_X11_isWalker mw_ini_11 mw_ml_11_317 mw_inst_X11_isWalker mw_sel_X11_isWalker hd_X11_isWalker ⟨by decide, by decide⟩ rfl (Nat.le_of_ble_eq_true rfl) ⟨by decide, by decide⟩ dX11_hearts_2 (fun r_2 u_1 H locs hp G => ?_)
  have G : mG D A s H locs [] := G
  subst hp
  refine lv_if_eq (tgt := 21) E.1 E.2.1 dX11_hearts_5 (by decide) (fun _ => ?_) (fun h => absurd (by decide) h)
  refine lv_iconst (v := (-1)) E.1 E.2.1 dX11_hearts_21 (by decide) ?_
  exact m_reti E G hr rfl (fun _ => 0, fun _ _ => 0, fun _ _ => none) rfl [] (by decide) rfl (by decide) (by decide) dX11_hearts_22
set_option maxHeartbeats 4000000 in
set_option maxRecDepth 100000 in
theorem r_waries (l : Launch) (D : va_G) (K : Nat → ClassId) (h0 : Nat) (m_tape : Nat) (m_sign : Nat) (m_length : Nat) (m_clause : Nat) (m_clauses : Nat) (m_read : Nat) (m_open : Nat) (m_stack : Nat) (m_word : Nat) (m_said : Nat) (m_goesTo : Nat) (m_hadBy : Nat) (m_wasSaid : Nat) (m_kept : Nat) (m_hasBy : Nat) (m_standsThen : Nat) (m_isFit : Nat) (m_cornerThen : Nat) (m_images : Nat) (m_imageForce : Nat) (m_imageX : Nat) (m_isMade : Nat) (p1 : Int32) : mI (S := mU) l yX11_waries cX11_waries 2 .int ({ frames := 1, cells := 0, slots := 0, locals := 21 }) D K [(h0, .inr (11, [.ref m_tape, .int 0, .int 0, .ref m_sign, .ref m_length, .ref m_clause, .ref m_clauses, .ref m_read, .int 0, .int 0, .int 0, .int 0, .int 0, .int 0, .int 0, .ref m_open, .int 0, .ref m_stack, .int 0, .ref m_word, .ref m_said, .int (-1), .int 0, .ref m_goesTo, .ref m_hadBy, .ref m_wasSaid, .int 0, .ref m_kept, .ref m_hasBy, .ref m_standsThen, .ref m_isFit, .ref m_cornerThen, .long 0, .ref m_images, .ref m_imageForce, .ref m_imageX, .ref m_isMade])), (m_said, .inl (K 0, 127, .inl (fun _ => 0)))] [.ref h0, .int p1] (fun r u => r = (-1)) (fun u => []) := by
  refine m_enterI (by decide) (Nat.le_of_ble_eq_true rfl) ?_
  intro p e s m args below meth c A ls E hr G hl
  have E : mE p s m meth c cX11_waries args 2 RX11 D K A := E
  have hl : lv_has ls 2 [(0, .ref h0), (1, .int p1)] := hl
  obtain ⟨H, hH⟩ : ∃ H, H = s.heap := ⟨_, rfl⟩
  obtain ⟨locs, hlo⟩ : ∃ L : List Loc, L = [] := ⟨_, rfl⟩
  rw [← hH, ← hlo] at G
  rw [← hH, ← hlo]
  have G : mG D A s H locs [(h0, .inr (11, [.ref m_tape, .int 0, .int 0, .ref m_sign, .ref m_length, .ref m_clause, .ref m_clauses, .ref m_read, .int 0, .int 0, .int 0, .int 0, .int 0, .int 0, .int 0, .ref m_open, .int 0, .ref m_stack, .int 0, .ref m_word, .ref m_said, .int (-1), .int 0, .ref m_goesTo, .ref m_hadBy, .ref m_wasSaid, .int 0, .ref m_kept, .ref m_hasBy, .ref m_standsThen, .ref m_isFit, .ref m_cornerThen, .long 0, .ref m_images, .ref m_imageForce, .ref m_imageX, .ref m_isMade])), (m_said, .inl (K 0, 127, .inl (fun _ => 0)))] := G
  clear hH hlo
  refine lv_aload_n E.1 E.2.1 dX11_waries_0 rfl (lv_at hl 0 rfl) ?_
  refine lv_iload_n E.1 E.2.1 dX11_waries_1 rfl (lv_at hl 1 rfl) ?_
  refine m_vi E G hl (r_isWalker l D K h0 m_tape m_sign m_length m_clause m_clauses m_read m_open m_stack m_word m_said m_goesTo m_hadBy m_wasSaid m_kept m_hasBy m_standsThen m_isFit m_cornerThen m_images m_imageForce m_imageX m_isMade p1) (wr := []) [0, 1] [] rfl rfl (by decide) (by decide) (by decide) 0 (ci := 11) rfl rfl rfl 1 rfl mw_code_X11_isWalker mw_ini_11 mw_ml_11_317 mw_inst_X11_isWalker mw_sel_X11_isWalker hd_X11_isWalker ⟨by decide, by decide⟩ rfl (Nat.le_of_ble_eq_true rfl) ⟨by decide, by decide⟩ dX11_waries_2 (fun r_2 u_1 H locs hp G => ?_)
  have G : mG D A s H locs [] := G
  subst hp
  refine lv_if_eq (tgt := 25) E.1 E.2.1 dX11_waries_5 (by decide) (fun _ => ?_) (fun h => absurd (by decide) h)
  refine lv_iconst (v := (-1)) E.1 E.2.1 dX11_waries_25 (by decide) ?_
  exact m_reti E G hr rfl (fun _ => 0, fun _ _ => 0, fun _ _ => none) rfl [] (by decide) rfl (by decide) (by decide) dX11_waries_26
set_option maxHeartbeats 4000000 in
set_option maxRecDepth 100000 in
theorem r_rests (l : Launch) (D : va_G) (K : Nat → ClassId) (h0 : Nat) (m_tape : Nat) (m_sign : Nat) (m_length : Nat) (m_clause : Nat) (m_clauses : Nat) (m_read : Nat) (m_open : Nat) (m_stack : Nat) (m_word : Nat) (m_said : Nat) (m_goesTo : Nat) (m_hadBy : Nat) (m_wasSaid : Nat) (m_kept : Nat) (m_hasBy : Nat) (m_standsThen : Nat) (m_isFit : Nat) (m_cornerThen : Nat) (m_images : Nat) (m_imageForce : Nat) (m_imageX : Nat) (m_isMade : Nat) (p1 : Int32) (p2 : Int32) (p3 : Int32) (p4 : Int32) : mI (S := mU) l yX11_rests cX11_rests 9 .int ({ frames := 2, cells := 0, slots := 0, locals := 42 }) D K [(h0, .inr (11, [.ref m_tape, .int 0, .int 0, .ref m_sign, .ref m_length, .ref m_clause, .ref m_clauses, .ref m_read, .int 0, .int 0, .int 0, .int 0, .int 0, .int 0, .int 0, .ref m_open, .int 0, .ref m_stack, .int 0, .ref m_word, .ref m_said, .int (-1), .int 0, .ref m_goesTo, .ref m_hadBy, .ref m_wasSaid, .int 0, .ref m_kept, .ref m_hasBy, .ref m_standsThen, .ref m_isFit, .ref m_cornerThen, .long 0, .ref m_images, .ref m_imageForce, .ref m_imageX, .ref m_isMade])), (m_said, .inl (K 0, 127, .inl (fun _ => 0)))] [.ref h0, .int p1, .int p2, .int p3, .int p4] (fun r u => r = (-1)) (fun u => []) := by
  refine m_enterI (by decide) (Nat.le_of_ble_eq_true rfl) ?_
  intro p e s m args below meth c A ls E hr G hl
  have E : mE p s m meth c cX11_rests args 9 RX11 D K A := E
  have hl : lv_has ls 9 [(0, .ref h0), (1, .int p1), (2, .int p2), (3, .int p3), (4, .int p4)] := hl
  obtain ⟨H, hH⟩ : ∃ H, H = s.heap := ⟨_, rfl⟩
  obtain ⟨locs, hlo⟩ : ∃ L : List Loc, L = [] := ⟨_, rfl⟩
  rw [← hH, ← hlo] at G
  rw [← hH, ← hlo]
  have G : mG D A s H locs [(h0, .inr (11, [.ref m_tape, .int 0, .int 0, .ref m_sign, .ref m_length, .ref m_clause, .ref m_clauses, .ref m_read, .int 0, .int 0, .int 0, .int 0, .int 0, .int 0, .int 0, .ref m_open, .int 0, .ref m_stack, .int 0, .ref m_word, .ref m_said, .int (-1), .int 0, .ref m_goesTo, .ref m_hadBy, .ref m_wasSaid, .int 0, .ref m_kept, .ref m_hasBy, .ref m_standsThen, .ref m_isFit, .ref m_cornerThen, .long 0, .ref m_images, .ref m_imageForce, .ref m_imageX, .ref m_isMade])), (m_said, .inl (K 0, 127, .inl (fun _ => 0)))] := G
  clear hH hlo
  refine lv_aload_n E.1 E.2.1 dX11_rests_0 rfl (lv_at hl 0 rfl) ?_
  refine lv_iload_n E.1 E.2.1 dX11_rests_1 rfl (lv_at hl 1 rfl) ?_
  refine m_vi E G hl (r_isLaid l D K h0 m_tape m_sign m_length m_clause m_clauses m_read m_open m_stack m_word m_said m_goesTo m_hadBy m_wasSaid m_kept m_hasBy m_standsThen m_isFit m_cornerThen m_images m_imageForce m_imageX m_isMade p1) (wr := []) [0, 1] [] rfl rfl (by decide) (by decide) (by decide) 0 (ci := 11) rfl rfl rfl 1 rfl mw_code_X11_isLaid mw_ini_11 mw_ml_11_288 mw_inst_X11_isLaid mw_sel_X11_isLaid hd_X11_isLaid ⟨by decide, by decide⟩ rfl (Nat.le_of_ble_eq_true rfl) ⟨by decide, by decide⟩ dX11_rests_2 (fun r_2 u_1 H locs hp G => ?_)
  have G : mG D A s H locs [] := G
  subst hp
  refine lv_if_eq (tgt := 46) E.1 E.2.1 dX11_rests_5 (by decide) (fun _ => ?_) (fun h => absurd (by decide) h)
  refine lv_iconst (v := (-1)) E.1 E.2.1 dX11_rests_46 (by decide) ?_
  exact m_reti E G hr rfl (fun _ => 0, fun _ _ => 0, fun _ _ => none) rfl [] (by decide) rfl (by decide) (by decide) dX11_rests_47
set_option maxHeartbeats 4000000 in
set_option maxRecDepth 100000 in
theorem r_ring (l : Launch) (D : va_G) (K : Nat → ClassId) (h0 : Nat) (m_tape : Nat) (m_sign : Nat) (m_length : Nat) (m_clause : Nat) (m_clauses : Nat) (m_read : Nat) (m_open : Nat) (m_stack : Nat) (m_word : Nat) (m_said : Nat) (m_goesTo : Nat) (m_hadBy : Nat) (m_wasSaid : Nat) (m_kept : Nat) (m_hasBy : Nat) (m_standsThen : Nat) (m_isFit : Nat) (m_cornerThen : Nat) (m_images : Nat) (m_imageForce : Nat) (m_imageX : Nat) (m_isMade : Nat) (p1 : Int32) : mI (S := mU) l yX11_ring cX11_ring 4 .int ({ frames := 1, cells := 0, slots := 0, locals := 20 }) D K [(h0, .inr (11, [.ref m_tape, .int 0, .int 0, .ref m_sign, .ref m_length, .ref m_clause, .ref m_clauses, .ref m_read, .int 0, .int 0, .int 0, .int 0, .int 0, .int 0, .int 0, .ref m_open, .int 0, .ref m_stack, .int 0, .ref m_word, .ref m_said, .int (-1), .int 0, .ref m_goesTo, .ref m_hadBy, .ref m_wasSaid, .int 0, .ref m_kept, .ref m_hasBy, .ref m_standsThen, .ref m_isFit, .ref m_cornerThen, .long 0, .ref m_images, .ref m_imageForce, .ref m_imageX, .ref m_isMade])), (m_said, .inl (K 0, 127, .inl (fun _ => 0)))] [.ref h0, .int p1] (fun r u => r = (-1)) (fun u => []) := by
  refine m_enterI (by decide) (Nat.le_of_ble_eq_true rfl) ?_
  intro p e s m args below meth c A ls E hr G hl
  have E : mE p s m meth c cX11_ring args 4 RX11 D K A := E
  have hl : lv_has ls 4 [(0, .ref h0), (1, .int p1)] := hl
  obtain ⟨H, hH⟩ : ∃ H, H = s.heap := ⟨_, rfl⟩
  obtain ⟨locs, hlo⟩ : ∃ L : List Loc, L = [] := ⟨_, rfl⟩
  rw [← hH, ← hlo] at G
  rw [← hH, ← hlo]
  have G : mG D A s H locs [(h0, .inr (11, [.ref m_tape, .int 0, .int 0, .ref m_sign, .ref m_length, .ref m_clause, .ref m_clauses, .ref m_read, .int 0, .int 0, .int 0, .int 0, .int 0, .int 0, .int 0, .ref m_open, .int 0, .ref m_stack, .int 0, .ref m_word, .ref m_said, .int (-1), .int 0, .ref m_goesTo, .ref m_hadBy, .ref m_wasSaid, .int 0, .ref m_kept, .ref m_hasBy, .ref m_standsThen, .ref m_isFit, .ref m_cornerThen, .long 0, .ref m_images, .ref m_imageForce, .ref m_imageX, .ref m_isMade])), (m_said, .inl (K 0, 127, .inl (fun _ => 0)))] := G
  clear hH hlo
  refine lv_aload_n E.1 E.2.1 dX11_ring_0 rfl (lv_at hl 0 rfl) ?_
  refine m_vi E G hl (r_isTown l D K h0 m_tape m_sign m_length m_clause m_clauses m_read m_open m_stack m_word m_said m_goesTo m_hadBy m_wasSaid m_kept m_hasBy m_standsThen m_isFit m_cornerThen m_images m_imageForce m_imageX m_isMade) (wr := []) [0, 1] [] rfl rfl (by decide) (by decide) (by decide) 0 (ci := 11) rfl rfl rfl 0 rfl mw_code_X11_isTown mw_ini_11 mw_ml_11_359 mw_inst_X11_isTown mw_sel_X11_isTown hd_X11_isTown ⟨by decide, by decide⟩ rfl (Nat.le_of_ble_eq_true rfl) ⟨by decide, by decide⟩ dX11_ring_1 (fun r_2 u_1 H locs hp G => ?_)
  have G : mG D A s H locs [] := G
  subst hp
  refine lv_if_eq (tgt := 17) E.1 E.2.1 dX11_ring_4 (by decide) (fun _ => ?_) (fun h => absurd (by decide) h)
  refine lv_iconst (v := (-1)) E.1 E.2.1 dX11_ring_17 (by decide) ?_
  exact m_reti E G hr rfl (fun _ => 0, fun _ _ => 0, fun _ _ => none) rfl [] (by decide) rfl (by decide) (by decide) dX11_ring_18
set_option maxHeartbeats 4000000 in
set_option maxRecDepth 100000 in
theorem r_pence (l : Launch) (D : va_G) (K : Nat → ClassId) (h0 : Nat) (m_tape : Nat) (m_sign : Nat) (m_length : Nat) (m_clause : Nat) (m_clauses : Nat) (m_read : Nat) (m_open : Nat) (m_stack : Nat) (m_word : Nat) (m_said : Nat) (m_goesTo : Nat) (m_hadBy : Nat) (m_wasSaid : Nat) (m_kept : Nat) (m_hasBy : Nat) (m_standsThen : Nat) (m_isFit : Nat) (m_cornerThen : Nat) (m_images : Nat) (m_imageForce : Nat) (m_imageX : Nat) (m_isMade : Nat) (p1 : Int32) (p2 : Int32) : mI (S := mU) l yX11_pence cX11_pence 9 .int ({ frames := 1, cells := 0, slots := 0, locals := 21 }) D K [(h0, .inr (11, [.ref m_tape, .int 0, .int 0, .ref m_sign, .ref m_length, .ref m_clause, .ref m_clauses, .ref m_read, .int 0, .int 0, .int 0, .int 0, .int 0, .int 0, .int 0, .ref m_open, .int 0, .ref m_stack, .int 0, .ref m_word, .ref m_said, .int (-1), .int 0, .ref m_goesTo, .ref m_hadBy, .ref m_wasSaid, .int 0, .ref m_kept, .ref m_hasBy, .ref m_standsThen, .ref m_isFit, .ref m_cornerThen, .long 0, .ref m_images, .ref m_imageForce, .ref m_imageX, .ref m_isMade])), (m_said, .inl (K 0, 127, .inl (fun _ => 0)))] [.ref h0, .int p1, .int p2] (fun r u => r = (-1)) (fun u => []) := by
  refine m_enterI (by decide) (Nat.le_of_ble_eq_true rfl) ?_
  intro p e s m args below meth c A ls E hr G hl
  have E : mE p s m meth c cX11_pence args 9 RX11 D K A := E
  have hl : lv_has ls 9 [(0, .ref h0), (1, .int p1), (2, .int p2)] := hl
  obtain ⟨H, hH⟩ : ∃ H, H = s.heap := ⟨_, rfl⟩
  obtain ⟨locs, hlo⟩ : ∃ L : List Loc, L = [] := ⟨_, rfl⟩
  rw [← hH, ← hlo] at G
  rw [← hH, ← hlo]
  have G : mG D A s H locs [(h0, .inr (11, [.ref m_tape, .int 0, .int 0, .ref m_sign, .ref m_length, .ref m_clause, .ref m_clauses, .ref m_read, .int 0, .int 0, .int 0, .int 0, .int 0, .int 0, .int 0, .ref m_open, .int 0, .ref m_stack, .int 0, .ref m_word, .ref m_said, .int (-1), .int 0, .ref m_goesTo, .ref m_hadBy, .ref m_wasSaid, .int 0, .ref m_kept, .ref m_hasBy, .ref m_standsThen, .ref m_isFit, .ref m_cornerThen, .long 0, .ref m_images, .ref m_imageForce, .ref m_imageX, .ref m_isMade])), (m_said, .inl (K 0, 127, .inl (fun _ => 0)))] := G
  clear hH hlo
  refine lv_aload_n E.1 E.2.1 dX11_pence_0 rfl (lv_at hl 0 rfl) ?_
  refine lv_iload_n E.1 E.2.1 dX11_pence_1 rfl (lv_at hl 2 rfl) ?_
  refine m_vi E G hl (r_isWalker l D K h0 m_tape m_sign m_length m_clause m_clauses m_read m_open m_stack m_word m_said m_goesTo m_hadBy m_wasSaid m_kept m_hasBy m_standsThen m_isFit m_cornerThen m_images m_imageForce m_imageX m_isMade p2) (wr := []) [0, 1] [] rfl rfl (by decide) (by decide) (by decide) 0 (ci := 11) rfl rfl rfl 1 rfl mw_code_X11_isWalker mw_ini_11 mw_ml_11_317 mw_inst_X11_isWalker mw_sel_X11_isWalker hd_X11_isWalker ⟨by decide, by decide⟩ rfl (Nat.le_of_ble_eq_true rfl) ⟨by decide, by decide⟩ dX11_pence_2 (fun r_2 u_1 H locs hp G => ?_)
  have G : mG D A s H locs [] := G
  subst hp
  refine lv_if_eq (tgt := 20) E.1 E.2.1 dX11_pence_5 (by decide) (fun _ => ?_) (fun h => absurd (by decide) h)
  refine lv_iconst (v := (-1)) E.1 E.2.1 dX11_pence_20 (by decide) ?_
  exact m_reti E G hr rfl (fun _ => 0, fun _ _ => 0, fun _ _ => none) rfl [] (by decide) rfl (by decide) (by decide) dX11_pence_21
set_option maxHeartbeats 4000000 in
set_option maxRecDepth 100000 in
theorem r_ruled (l : Launch) (D : va_G) (K : Nat → ClassId) (h0 : Nat) (m_tape : Nat) (m_sign : Nat) (m_length : Nat) (m_clause : Nat) (m_clauses : Nat) (m_read : Nat) (m_open : Nat) (m_stack : Nat) (m_word : Nat) (m_said : Nat) (m_goesTo : Nat) (m_hadBy : Nat) (m_wasSaid : Nat) (m_kept : Nat) (m_hasBy : Nat) (m_standsThen : Nat) (m_isFit : Nat) (m_cornerThen : Nat) (m_images : Nat) (m_imageForce : Nat) (m_imageX : Nat) (m_isMade : Nat) (p1 : Int32) : mI (S := mU) l yX11_ruled cX11_ruled 5 .int ({ frames := 1, cells := 0, slots := 0, locals := 20 }) D K [(h0, .inr (11, [.ref m_tape, .int 0, .int 0, .ref m_sign, .ref m_length, .ref m_clause, .ref m_clauses, .ref m_read, .int 0, .int 0, .int 0, .int 0, .int 0, .int 0, .int 0, .ref m_open, .int 0, .ref m_stack, .int 0, .ref m_word, .ref m_said, .int (-1), .int 0, .ref m_goesTo, .ref m_hadBy, .ref m_wasSaid, .int 0, .ref m_kept, .ref m_hasBy, .ref m_standsThen, .ref m_isFit, .ref m_cornerThen, .long 0, .ref m_images, .ref m_imageForce, .ref m_imageX, .ref m_isMade])), (m_said, .inl (K 0, 127, .inl (fun _ => 0)))] [.ref h0, .int p1] (fun r u => r = (-3)) (fun u => []) := by
  refine m_enterI (by decide) (Nat.le_of_ble_eq_true rfl) ?_
  intro p e s m args below meth c A ls E hr G hl
  have E : mE p s m meth c cX11_ruled args 5 RX11 D K A := E
  have hl : lv_has ls 5 [(0, .ref h0), (1, .int p1)] := hl
  obtain ⟨H, hH⟩ : ∃ H, H = s.heap := ⟨_, rfl⟩
  obtain ⟨locs, hlo⟩ : ∃ L : List Loc, L = [] := ⟨_, rfl⟩
  rw [← hH, ← hlo] at G
  rw [← hH, ← hlo]
  have G : mG D A s H locs [(h0, .inr (11, [.ref m_tape, .int 0, .int 0, .ref m_sign, .ref m_length, .ref m_clause, .ref m_clauses, .ref m_read, .int 0, .int 0, .int 0, .int 0, .int 0, .int 0, .int 0, .ref m_open, .int 0, .ref m_stack, .int 0, .ref m_word, .ref m_said, .int (-1), .int 0, .ref m_goesTo, .ref m_hadBy, .ref m_wasSaid, .int 0, .ref m_kept, .ref m_hasBy, .ref m_standsThen, .ref m_isFit, .ref m_cornerThen, .long 0, .ref m_images, .ref m_imageForce, .ref m_imageX, .ref m_isMade])), (m_said, .inl (K 0, 127, .inl (fun _ => 0)))] := G
  clear hH hlo
  refine lv_aload_n E.1 E.2.1 dX11_ruled_0 rfl (lv_at hl 0 rfl) ?_
  refine m_vi E G hl (r_isTown l D K h0 m_tape m_sign m_length m_clause m_clauses m_read m_open m_stack m_word m_said m_goesTo m_hadBy m_wasSaid m_kept m_hasBy m_standsThen m_isFit m_cornerThen m_images m_imageForce m_imageX m_isMade) (wr := []) [0, 1] [] rfl rfl (by decide) (by decide) (by decide) 0 (ci := 11) rfl rfl rfl 0 rfl mw_code_X11_isTown mw_ini_11 mw_ml_11_359 mw_inst_X11_isTown mw_sel_X11_isTown hd_X11_isTown ⟨by decide, by decide⟩ rfl (Nat.le_of_ble_eq_true rfl) ⟨by decide, by decide⟩ dX11_ruled_1 (fun r_2 u_1 H locs hp G => ?_)
  have G : mG D A s H locs [] := G
  subst hp
  refine lv_if_eq (tgt := 17) E.1 E.2.1 dX11_ruled_4 (by decide) (fun _ => ?_) (fun h => absurd (by decide) h)
  refine lv_bipush (v := (-3)) E.1 E.2.1 dX11_ruled_17 (by decide) ?_
  exact m_reti E G hr rfl (fun _ => 0, fun _ _ => 0, fun _ _ => none) rfl [] (by decide) rfl (by decide) (by decide) dX11_ruled_19
set_option maxHeartbeats 4000000 in
set_option maxRecDepth 100000 in
theorem r_look (l : Launch) (D : va_G) (K : Nat → ClassId) (h0 : Nat) (m_tape : Nat) (m_sign : Nat) (m_length : Nat) (m_clause : Nat) (m_clauses : Nat) (m_read : Nat) (m_open : Nat) (m_stack : Nat) (m_word : Nat) (m_said : Nat) (m_goesTo : Nat) (m_hadBy : Nat) (m_wasSaid : Nat) (m_kept : Nat) (m_hasBy : Nat) (m_standsThen : Nat) (m_isFit : Nat) (m_cornerThen : Nat) (m_images : Nat) (m_imageForce : Nat) (m_imageX : Nat) (m_isMade : Nat) (p1 : Int32) (p2 : Int32) : mI (S := mU) l yX11_look cX11_look 7 .int ({ frames := 1, cells := 0, slots := 0, locals := 20 }) D K [(h0, .inr (11, [.ref m_tape, .int 0, .int 0, .ref m_sign, .ref m_length, .ref m_clause, .ref m_clauses, .ref m_read, .int 0, .int 0, .int 0, .int 0, .int 0, .int 0, .int 0, .ref m_open, .int 0, .ref m_stack, .int 0, .ref m_word, .ref m_said, .int (-1), .int 0, .ref m_goesTo, .ref m_hadBy, .ref m_wasSaid, .int 0, .ref m_kept, .ref m_hasBy, .ref m_standsThen, .ref m_isFit, .ref m_cornerThen, .long 0, .ref m_images, .ref m_imageForce, .ref m_imageX, .ref m_isMade])), (m_said, .inl (K 0, 127, .inl (fun _ => 0)))] [.ref h0, .int p1, .int p2] (fun r u => r = (-1)) (fun u => []) := by
  refine m_enterI (by decide) (Nat.le_of_ble_eq_true rfl) ?_
  intro p e s m args below meth c A ls E hr G hl
  have E : mE p s m meth c cX11_look args 7 RX11 D K A := E
  have hl : lv_has ls 7 [(0, .ref h0), (1, .int p1), (2, .int p2)] := hl
  obtain ⟨H, hH⟩ : ∃ H, H = s.heap := ⟨_, rfl⟩
  obtain ⟨locs, hlo⟩ : ∃ L : List Loc, L = [] := ⟨_, rfl⟩
  rw [← hH, ← hlo] at G
  rw [← hH, ← hlo]
  have G : mG D A s H locs [(h0, .inr (11, [.ref m_tape, .int 0, .int 0, .ref m_sign, .ref m_length, .ref m_clause, .ref m_clauses, .ref m_read, .int 0, .int 0, .int 0, .int 0, .int 0, .int 0, .int 0, .ref m_open, .int 0, .ref m_stack, .int 0, .ref m_word, .ref m_said, .int (-1), .int 0, .ref m_goesTo, .ref m_hadBy, .ref m_wasSaid, .int 0, .ref m_kept, .ref m_hasBy, .ref m_standsThen, .ref m_isFit, .ref m_cornerThen, .long 0, .ref m_images, .ref m_imageForce, .ref m_imageX, .ref m_isMade])), (m_said, .inl (K 0, 127, .inl (fun _ => 0)))] := G
  clear hH hlo
  refine lv_aload_n E.1 E.2.1 dX11_look_0 rfl (lv_at hl 0 rfl) ?_
  refine m_vi E G hl (r_isTown l D K h0 m_tape m_sign m_length m_clause m_clauses m_read m_open m_stack m_word m_said m_goesTo m_hadBy m_wasSaid m_kept m_hasBy m_standsThen m_isFit m_cornerThen m_images m_imageForce m_imageX m_isMade) (wr := []) [0, 1] [] rfl rfl (by decide) (by decide) (by decide) 0 (ci := 11) rfl rfl rfl 0 rfl mw_code_X11_isTown mw_ini_11 mw_ml_11_359 mw_inst_X11_isTown mw_sel_X11_isTown hd_X11_isTown ⟨by decide, by decide⟩ rfl (Nat.le_of_ble_eq_true rfl) ⟨by decide, by decide⟩ dX11_look_1 (fun r_2 u_1 H locs hp G => ?_)
  have G : mG D A s H locs [] := G
  subst hp
  refine lv_if_eq (tgt := 29) E.1 E.2.1 dX11_look_4 (by decide) (fun _ => ?_) (fun h => absurd (by decide) h)
  refine lv_iconst (v := (-1)) E.1 E.2.1 dX11_look_29 (by decide) ?_
  exact m_reti E G hr rfl (fun _ => 0, fun _ _ => 0, fun _ _ => none) rfl [] (by decide) rfl (by decide) (by decide) dX11_look_30
set_option maxHeartbeats 4000000 in
set_option maxRecDepth 100000 in
theorem r_nights (l : Launch) (D : va_G) (K : Nat → ClassId) (h0 : Nat) (m_tape : Nat) (m_sign : Nat) (m_length : Nat) (m_clause : Nat) (m_clauses : Nat) (m_read : Nat) (m_open : Nat) (m_stack : Nat) (m_word : Nat) (m_said : Nat) (m_goesTo : Nat) (m_hadBy : Nat) (m_wasSaid : Nat) (m_kept : Nat) (m_hasBy : Nat) (m_standsThen : Nat) (m_isFit : Nat) (m_cornerThen : Nat) (m_images : Nat) (m_imageForce : Nat) (m_imageX : Nat) (m_isMade : Nat) (p1 : Int32) (p2 : Int32) (p3 : Int32) (p4 : Int32) : mI (S := mU) l yX11_nights cX11_nights 9 .int ({ frames := 1, cells := 0, slots := 0, locals := 20 }) D K [(h0, .inr (11, [.ref m_tape, .int 0, .int 0, .ref m_sign, .ref m_length, .ref m_clause, .ref m_clauses, .ref m_read, .int 0, .int 0, .int 0, .int 0, .int 0, .int 0, .int 0, .ref m_open, .int 0, .ref m_stack, .int 0, .ref m_word, .ref m_said, .int (-1), .int 0, .ref m_goesTo, .ref m_hadBy, .ref m_wasSaid, .int 0, .ref m_kept, .ref m_hasBy, .ref m_standsThen, .ref m_isFit, .ref m_cornerThen, .long 0, .ref m_images, .ref m_imageForce, .ref m_imageX, .ref m_isMade])), (m_said, .inl (K 0, 127, .inl (fun _ => 0)))] [.ref h0, .int p1, .int p2, .int p3, .int p4] (fun r u => r = (-1)) (fun u => []) := by
  refine m_enterI (by decide) (Nat.le_of_ble_eq_true rfl) ?_
  intro p e s m args below meth c A ls E hr G hl
  have E : mE p s m meth c cX11_nights args 9 RX11 D K A := E
  have hl : lv_has ls 9 [(0, .ref h0), (1, .int p1), (2, .int p2), (3, .int p3), (4, .int p4)] := hl
  obtain ⟨H, hH⟩ : ∃ H, H = s.heap := ⟨_, rfl⟩
  obtain ⟨locs, hlo⟩ : ∃ L : List Loc, L = [] := ⟨_, rfl⟩
  rw [← hH, ← hlo] at G
  rw [← hH, ← hlo]
  have G : mG D A s H locs [(h0, .inr (11, [.ref m_tape, .int 0, .int 0, .ref m_sign, .ref m_length, .ref m_clause, .ref m_clauses, .ref m_read, .int 0, .int 0, .int 0, .int 0, .int 0, .int 0, .int 0, .ref m_open, .int 0, .ref m_stack, .int 0, .ref m_word, .ref m_said, .int (-1), .int 0, .ref m_goesTo, .ref m_hadBy, .ref m_wasSaid, .int 0, .ref m_kept, .ref m_hasBy, .ref m_standsThen, .ref m_isFit, .ref m_cornerThen, .long 0, .ref m_images, .ref m_imageForce, .ref m_imageX, .ref m_isMade])), (m_said, .inl (K 0, 127, .inl (fun _ => 0)))] := G
  clear hH hlo
  refine lv_aload_n E.1 E.2.1 dX11_nights_0 rfl (lv_at hl 0 rfl) ?_
  refine m_vi E G hl (r_isTown l D K h0 m_tape m_sign m_length m_clause m_clauses m_read m_open m_stack m_word m_said m_goesTo m_hadBy m_wasSaid m_kept m_hasBy m_standsThen m_isFit m_cornerThen m_images m_imageForce m_imageX m_isMade) (wr := []) [0, 1] [] rfl rfl (by decide) (by decide) (by decide) 0 (ci := 11) rfl rfl rfl 0 rfl mw_code_X11_isTown mw_ini_11 mw_ml_11_359 mw_inst_X11_isTown mw_sel_X11_isTown hd_X11_isTown ⟨by decide, by decide⟩ rfl (Nat.le_of_ble_eq_true rfl) ⟨by decide, by decide⟩ dX11_nights_1 (fun r_2 u_1 H locs hp G => ?_)
  have G : mG D A s H locs [] := G
  subst hp
  refine lv_if_eq (tgt := 54) E.1 E.2.1 dX11_nights_4 (by decide) (fun _ => ?_) (fun h => absurd (by decide) h)
  refine lv_iconst (v := (-1)) E.1 E.2.1 dX11_nights_54 (by decide) ?_
  exact m_reti E G hr rfl (fun _ => 0, fun _ _ => 0, fun _ _ => none) rfl [] (by decide) rfl (by decide) (by decide) dX11_nights_55
set_option maxHeartbeats 4000000 in
set_option maxRecDepth 100000 in
theorem r_undo (l : Launch) (D : va_G) (K : Nat → ClassId) (h0 : Nat) (m_tape : Nat) (m_sign : Nat) (m_length : Nat) (m_clause : Nat) (m_clauses : Nat) (m_read : Nat) (m_open : Nat) (m_stack : Nat) (m_word : Nat) (m_said : Nat) (m_goesTo : Nat) (m_hadBy : Nat) (m_wasSaid : Nat) (m_kept : Nat) (m_hasBy : Nat) (m_standsThen : Nat) (m_isFit : Nat) (m_cornerThen : Nat) (m_images : Nat) (m_imageForce : Nat) (m_imageX : Nat) (m_isMade : Nat) : mI (S := mU) l yX11_undo cX11_undo 2 .int ({ frames := 0, cells := 0, slots := 0, locals := 0 }) D K [(h0, .inr (11, [.ref m_tape, .int 0, .int 0, .ref m_sign, .ref m_length, .ref m_clause, .ref m_clauses, .ref m_read, .int 0, .int 0, .int 0, .int 0, .int 0, .int 0, .int 0, .ref m_open, .int 0, .ref m_stack, .int 0, .ref m_word, .ref m_said, .int (-1), .int 0, .ref m_goesTo, .ref m_hadBy, .ref m_wasSaid, .int 0, .ref m_kept, .ref m_hasBy, .ref m_standsThen, .ref m_isFit, .ref m_cornerThen, .long 0, .ref m_images, .ref m_imageForce, .ref m_imageX, .ref m_isMade]))] [.ref h0] (fun r u => r = (-1)) (fun u => []) := by
  refine m_enterI (by decide) (Nat.le_of_ble_eq_true rfl) ?_
  intro p e s m args below meth c A ls E hr G hl
  have E : mE p s m meth c cX11_undo args 2 RX11 D K A := E
  have hl : lv_has ls 2 [(0, .ref h0)] := hl
  obtain ⟨H, hH⟩ : ∃ H, H = s.heap := ⟨_, rfl⟩
  obtain ⟨locs, hlo⟩ : ∃ L : List Loc, L = [] := ⟨_, rfl⟩
  rw [← hH, ← hlo] at G
  rw [← hH, ← hlo]
  have G : mG D A s H locs [(h0, .inr (11, [.ref m_tape, .int 0, .int 0, .ref m_sign, .ref m_length, .ref m_clause, .ref m_clauses, .ref m_read, .int 0, .int 0, .int 0, .int 0, .int 0, .int 0, .int 0, .ref m_open, .int 0, .ref m_stack, .int 0, .ref m_word, .ref m_said, .int (-1), .int 0, .ref m_goesTo, .ref m_hadBy, .ref m_wasSaid, .int 0, .ref m_kept, .ref m_hasBy, .ref m_standsThen, .ref m_isFit, .ref m_cornerThen, .long 0, .ref m_images, .ref m_imageForce, .ref m_imageX, .ref m_isMade]))] := G
  clear hH hlo
  refine lv_aload_n E.1 E.2.1 dX11_undo_0 rfl (lv_at hl 0 rfl) ?_
  refine m_get E G 0 (ci := 11) rfl 26 (C := RX11) (T := TX11) (N := 37) rfl (by decide) mw_fl_11_267 (v := .int 0) rfl dX11_undo_1 ?_
  refine lv_if_ne (tgt := 9) E.1 E.2.1 dX11_undo_4 (by decide) (fun h => absurd (by decide) h) (fun _ => ?_)
  refine lv_iconst (v := (-1)) E.1 E.2.1 dX11_undo_7 (by decide) ?_
  exact m_reti E G hr rfl (fun _ => 0, fun _ _ => 0, fun _ _ => none) rfl [] (by decide) rfl (by decide) (by decide) dX11_undo_8
set_option maxHeartbeats 4000000 in
set_option maxRecDepth 100000 in
theorem r_end (l : Launch) (D : va_G) (K : Nat → ClassId) (h0 : Nat) (m_tape : Nat) (m_sign : Nat) (m_length : Nat) (m_clause : Nat) (m_clauses : Nat) (m_read : Nat) (m_open : Nat) (m_stack : Nat) (m_word : Nat) (m_said : Nat) (m_goesTo : Nat) (m_hadBy : Nat) (m_wasSaid : Nat) (m_kept : Nat) (m_hasBy : Nat) (m_standsThen : Nat) (m_isFit : Nat) (m_cornerThen : Nat) (m_images : Nat) (m_imageForce : Nat) (m_imageX : Nat) (m_isMade : Nat) (p1 : Int32) : mI (S := mU) l yX11_end cX11_end 2 .int ({ frames := 0, cells := 0, slots := 0, locals := 0 }) D K [(h0, .inr (11, [.ref m_tape, .int 0, .int 0, .ref m_sign, .ref m_length, .ref m_clause, .ref m_clauses, .ref m_read, .int 0, .int 0, .int 0, .int 0, .int 0, .int 0, .int 0, .ref m_open, .int 0, .ref m_stack, .int 0, .ref m_word, .ref m_said, .int (-1), .int 0, .ref m_goesTo, .ref m_hadBy, .ref m_wasSaid, .int 0, .ref m_kept, .ref m_hasBy, .ref m_standsThen, .ref m_isFit, .ref m_cornerThen, .long 0, .ref m_images, .ref m_imageForce, .ref m_imageX, .ref m_isMade]))] [.ref h0, .int p1] (fun r u => r = ans_end p1) (fun u => []) := by
  refine m_enterI (by decide) (Nat.le_of_ble_eq_true rfl) ?_
  intro p e s m args below meth c A ls E hr G hl
  have E : mE p s m meth c cX11_end args 2 RX11 D K A := E
  have hl : lv_has ls 2 [(0, .ref h0), (1, .int p1)] := hl
  obtain ⟨H, hH⟩ : ∃ H, H = s.heap := ⟨_, rfl⟩
  obtain ⟨locs, hlo⟩ : ∃ L : List Loc, L = [] := ⟨_, rfl⟩
  rw [← hH, ← hlo] at G
  rw [← hH, ← hlo]
  have G : mG D A s H locs [(h0, .inr (11, [.ref m_tape, .int 0, .int 0, .ref m_sign, .ref m_length, .ref m_clause, .ref m_clauses, .ref m_read, .int 0, .int 0, .int 0, .int 0, .int 0, .int 0, .int 0, .ref m_open, .int 0, .ref m_stack, .int 0, .ref m_word, .ref m_said, .int (-1), .int 0, .ref m_goesTo, .ref m_hadBy, .ref m_wasSaid, .int 0, .ref m_kept, .ref m_hasBy, .ref m_standsThen, .ref m_isFit, .ref m_cornerThen, .long 0, .ref m_images, .ref m_imageForce, .ref m_imageX, .ref m_isMade]))] := G
  clear hH hlo
  refine lv_iload_n E.1 E.2.1 dX11_end_0 rfl (lv_at hl 1 rfl) ?_
  refine lv_if_lt (tgt := 12) E.1 E.2.1 dX11_end_1 (by decide) (fun c_1 => ?_) (fun c_1 => ?_)
  · skip
    refine lv_iconst (v := (-1)) E.1 E.2.1 dX11_end_12 (by decide) ?_
    exact m_reti E G hr rfl (fun _ => 0, fun _ _ => 0, fun _ _ => none) (by first | exact ans_end_1 ‹_› | exact ans_end_2 ‹_› | exact ans_end_2 (Int32.not_le.mp ‹_›) | exact ans_end_3 ‹_› ‹_› | exact ans_end_3 ‹_› (Int32.not_lt.mpr ‹_›)) [] (by decide) rfl (by decide) (by decide) dX11_end_13
  · skip
    refine lv_iload_n E.1 E.2.1 dX11_end_4 rfl (lv_at hl 1 rfl) ?_
    refine lv_aload_n E.1 E.2.1 dX11_end_5 rfl (lv_at hl 0 rfl) ?_
    refine m_get E G 0 (ci := 11) rfl 1 (C := RX11) (T := TX11) (N := 37) rfl (by decide) mw_fl_11_83 (v := .int 0) rfl dX11_end_6 ?_
    refine lv_icmp_le (tgt := 14) E.1 E.2.1 dX11_end_9 (by decide) (fun c_2 => ?_) (fun c_2 => ?_)
    · skip
      refine lv_aload_n E.1 E.2.1 dX11_end_14 rfl (lv_at hl 0 rfl) ?_
      refine lv_iload_n E.1 E.2.1 dX11_end_15 rfl (lv_at hl 1 rfl) ?_
      refine m_put E G 0 (ci := 11) rfl 1 (C := RX11) (T := TX11) (N := 37) rfl (by decide) mw_fl_11_83 rfl rfl rfl (Nat.le_of_ble_eq_true rfl) dX11_end_16 (fun H locs G => ?_)
      have G : mG D A s H locs [(h0, .inr (11, [.ref m_tape, .int p1, .int 0, .ref m_sign, .ref m_length, .ref m_clause, .ref m_clauses, .ref m_read, .int 0, .int 0, .int 0, .int 0, .int 0, .int 0, .int 0, .ref m_open, .int 0, .ref m_stack, .int 0, .ref m_word, .ref m_said, .int (-1), .int 0, .ref m_goesTo, .ref m_hadBy, .ref m_wasSaid, .int 0, .ref m_kept, .ref m_hasBy, .ref m_standsThen, .ref m_isFit, .ref m_cornerThen, .long 0, .ref m_images, .ref m_imageForce, .ref m_imageX, .ref m_isMade]))] := G
      refine lv_iload_n E.1 E.2.1 dX11_end_19 rfl (lv_at hl 1 rfl) ?_
      exact m_reti E G hr rfl (fun _ => 0, fun _ _ => 0, fun _ _ => none) (by first | exact ans_end_1 ‹_› | exact ans_end_2 ‹_› | exact ans_end_2 (Int32.not_le.mp ‹_›) | exact ans_end_3 ‹_› ‹_› | exact ans_end_3 ‹_› (Int32.not_lt.mpr ‹_›)) [] (by decide) rfl (by decide) (by decide) dX11_end_20
    · skip
      refine lv_iconst (v := (-1)) E.1 E.2.1 dX11_end_12 (by decide) ?_
      exact m_reti E G hr rfl (fun _ => 0, fun _ _ => 0, fun _ _ => none) (by first | exact ans_end_1 ‹_› | exact ans_end_2 ‹_› | exact ans_end_2 (Int32.not_le.mp ‹_›) | exact ans_end_3 ‹_› ‹_› | exact ans_end_3 ‹_› (Int32.not_lt.mpr ‹_›)) [] (by decide) rfl (by decide) (by decide) dX11_end_13
set_option maxHeartbeats 4000000 in
set_option maxRecDepth 100000 in
theorem r_force (l : Launch) (D : va_G) (K : Nat → ClassId) (h0 : Nat) (m_tape : Nat) (m_sign : Nat) (m_length : Nat) (m_clause : Nat) (m_clauses : Nat) (m_read : Nat) (m_open : Nat) (m_stack : Nat) (m_word : Nat) (m_said : Nat) (m_goesTo : Nat) (m_hadBy : Nat) (m_wasSaid : Nat) (m_kept : Nat) (m_hasBy : Nat) (m_standsThen : Nat) (m_isFit : Nat) (m_cornerThen : Nat) (m_images : Nat) (m_imageForce : Nat) (m_imageX : Nat) (m_isMade : Nat) (p1 : Int32) : mI (S := mU) l yX11_force cX11_force 3 .int ({ frames := 1, cells := 0, slots := 0, locals := 21 }) D K [(h0, .inr (11, [.ref m_tape, .int 0, .int 0, .ref m_sign, .ref m_length, .ref m_clause, .ref m_clauses, .ref m_read, .int 0, .int 0, .int 0, .int 0, .int 0, .int 0, .int 0, .ref m_open, .int 0, .ref m_stack, .int 0, .ref m_word, .ref m_said, .int (-1), .int 0, .ref m_goesTo, .ref m_hadBy, .ref m_wasSaid, .int 0, .ref m_kept, .ref m_hasBy, .ref m_standsThen, .ref m_isFit, .ref m_cornerThen, .long 0, .ref m_images, .ref m_imageForce, .ref m_imageX, .ref m_isMade]))] [.ref h0, .int p1] (fun r u => r = ans_force p1) (fun u => []) := by
  refine m_enterI (by decide) (Nat.le_of_ble_eq_true rfl) ?_
  intro p e s m args below meth c A ls E hr G hl
  have E : mE p s m meth c cX11_force args 3 RX11 D K A := E
  have hl : lv_has ls 3 [(0, .ref h0), (1, .int p1)] := hl
  obtain ⟨H, hH⟩ : ∃ H, H = s.heap := ⟨_, rfl⟩
  obtain ⟨locs, hlo⟩ : ∃ L : List Loc, L = [] := ⟨_, rfl⟩
  rw [← hH, ← hlo] at G
  rw [← hH, ← hlo]
  have G : mG D A s H locs [(h0, .inr (11, [.ref m_tape, .int 0, .int 0, .ref m_sign, .ref m_length, .ref m_clause, .ref m_clauses, .ref m_read, .int 0, .int 0, .int 0, .int 0, .int 0, .int 0, .int 0, .ref m_open, .int 0, .ref m_stack, .int 0, .ref m_word, .ref m_said, .int (-1), .int 0, .ref m_goesTo, .ref m_hadBy, .ref m_wasSaid, .int 0, .ref m_kept, .ref m_hasBy, .ref m_standsThen, .ref m_isFit, .ref m_cornerThen, .long 0, .ref m_images, .ref m_imageForce, .ref m_imageX, .ref m_isMade]))] := G
  clear hH hlo
  refine lv_iload_n E.1 E.2.1 dX11_force_0 rfl (lv_at hl 1 rfl) ?_
  refine lv_iconst (v := (-1)) E.1 E.2.1 dX11_force_1 (by decide) ?_
  refine lv_icmp_eq (tgt := 16) E.1 E.2.1 dX11_force_2 (by decide) (fun c_1 => ?_) (fun c_1 => ?_)
  · skip
    refine lv_aload_n E.1 E.2.1 dX11_force_16 rfl (lv_at hl 0 rfl) ?_
    refine m_get E G 0 (ci := 11) rfl 21 (C := RX11) (T := TX11) (N := 37) rfl (by decide) mw_fl_11_42 (v := .int (-1)) rfl dX11_force_17 ?_
    refine lv_istore_n (lv' := [(2, .int (-1)), (0, .ref h0), (1, .int p1)]) E.1 E.2.1 dX11_force_20 rfl hl (by decide) rfl (fun ls hl => ?_)
    refine lv_aload_n E.1 E.2.1 dX11_force_21 rfl (lv_at hl 1 rfl) ?_
    refine lv_iload_n E.1 E.2.1 dX11_force_22 rfl (lv_at hl 2 rfl) ?_
    refine m_put E G 0 (ci := 11) rfl 21 (C := RX11) (T := TX11) (N := 37) rfl (by decide) mw_fl_11_42 rfl rfl rfl (Nat.le_of_ble_eq_true rfl) dX11_force_23 (fun H locs G => ?_)
    have G : mG D A s H locs [(h0, .inr (11, [.ref m_tape, .int 0, .int 0, .ref m_sign, .ref m_length, .ref m_clause, .ref m_clauses, .ref m_read, .int 0, .int 0, .int 0, .int 0, .int 0, .int 0, .int 0, .ref m_open, .int 0, .ref m_stack, .int 0, .ref m_word, .ref m_said, .int p1, .int 0, .ref m_goesTo, .ref m_hadBy, .ref m_wasSaid, .int 0, .ref m_kept, .ref m_hasBy, .ref m_standsThen, .ref m_isFit, .ref m_cornerThen, .long 0, .ref m_images, .ref m_imageForce, .ref m_imageX, .ref m_isMade]))] := G
    refine lv_iload_n E.1 E.2.1 dX11_force_26 rfl (lv_at hl 0 rfl) ?_
    exact m_reti E G hr rfl (fun _ => 0, fun _ _ => 0, fun _ _ => none) (by first | exact ans_force_4 ‹_› | exact ans_force_5 ‹_›) [] (by decide) rfl (by decide) (by decide) dX11_force_27
  · skip
    refine lv_aload_n E.1 E.2.1 dX11_force_5 rfl (lv_at hl 0 rfl) ?_
    refine lv_iload_n E.1 E.2.1 dX11_force_6 rfl (lv_at hl 1 rfl) ?_
    refine m_vi E G hl (r_isRule l D K h0 m_tape m_sign m_length m_clause m_clauses m_read m_open m_stack m_word m_said m_goesTo m_hadBy m_wasSaid m_kept m_hasBy m_standsThen m_isFit m_cornerThen m_images m_imageForce m_imageX m_isMade p1) (wr := []) [0] [] rfl rfl (by decide) (by decide) (by decide) 0 (ci := 11) rfl rfl rfl 1 rfl mw_code_X11_isRule mw_ini_11 mw_ml_11_308 mw_inst_X11_isRule mw_sel_X11_isRule hd_X11_isRule ⟨by decide, by decide⟩ rfl (Nat.le_of_ble_eq_true rfl) ⟨by decide, by decide⟩ dX11_force_7 (fun r_3 u_2 H locs hp G => ?_)
    have G : mG D A s H locs [] := G
    subst hp
    refine lv_if_ne (tgt := 16) E.1 E.2.1 dX11_force_10 (by decide) (fun h => absurd (by decide) h) (fun _ => ?_)
    refine lv_bipush (v := (-2)) E.1 E.2.1 dX11_force_13 (by decide) ?_
    exact m_reti E G hr rfl (fun _ => 0, fun _ _ => 0, fun _ _ => none) (by first | exact ans_force_4 ‹_› | exact ans_force_5 ‹_›) [] (by decide) rfl (by decide) (by decide) dX11_force_15
set_option maxHeartbeats 4000000 in
set_option maxRecDepth 100000 in
theorem r_note (l : Launch) (D : va_G) (K : Nat → ClassId) (h0 : Nat) (m_tape : Nat) (m_sign : Nat) (m_length : Nat) (m_clause : Nat) (m_clauses : Nat) (m_read : Nat) (m_open : Nat) (m_stack : Nat) (m_word : Nat) (m_said : Nat) (m_goesTo : Nat) (m_hadBy : Nat) (m_wasSaid : Nat) (m_kept : Nat) (m_hasBy : Nat) (m_standsThen : Nat) (m_isFit : Nat) (m_cornerThen : Nat) (m_images : Nat) (m_imageForce : Nat) (m_imageX : Nat) (m_isMade : Nat) (p1 : Int32) (p2 : Int32) (p3 : Int32) : mI (S := mU) l yX11_note cX11_note 5 .int ({ frames := 1, cells := 0, slots := 0, locals := 25 }) D K [(h0, .inr (11, [.ref m_tape, .int 0, .int 0, .ref m_sign, .ref m_length, .ref m_clause, .ref m_clauses, .ref m_read, .int 0, .int 0, .int 0, .int 0, .int 0, .int 0, .int 0, .ref m_open, .int 0, .ref m_stack, .int 0, .ref m_word, .ref m_said, .int (-1), .int 0, .ref m_goesTo, .ref m_hadBy, .ref m_wasSaid, .int 0, .ref m_kept, .ref m_hasBy, .ref m_standsThen, .ref m_isFit, .ref m_cornerThen, .long 0, .ref m_images, .ref m_imageForce, .ref m_imageX, .ref m_isMade])), (m_said, .inl (K 0, 127, .inl (fun _ => 0)))] [.ref h0, .int p1, .int p2, .int p3] (fun r u => r = ans_note p1) (fun u => []) := by
  refine m_enterI (by decide) (Nat.le_of_ble_eq_true rfl) ?_
  intro p e s m args below meth c A ls E hr G hl
  have E : mE p s m meth c cX11_note args 5 RX11 D K A := E
  have hl : lv_has ls 5 [(0, .ref h0), (1, .int p1), (2, .int p2), (3, .int p3)] := hl
  obtain ⟨H, hH⟩ : ∃ H, H = s.heap := ⟨_, rfl⟩
  obtain ⟨locs, hlo⟩ : ∃ L : List Loc, L = [] := ⟨_, rfl⟩
  rw [← hH, ← hlo] at G
  rw [← hH, ← hlo]
  have G : mG D A s H locs [(h0, .inr (11, [.ref m_tape, .int 0, .int 0, .ref m_sign, .ref m_length, .ref m_clause, .ref m_clauses, .ref m_read, .int 0, .int 0, .int 0, .int 0, .int 0, .int 0, .int 0, .ref m_open, .int 0, .ref m_stack, .int 0, .ref m_word, .ref m_said, .int (-1), .int 0, .ref m_goesTo, .ref m_hadBy, .ref m_wasSaid, .int 0, .ref m_kept, .ref m_hasBy, .ref m_standsThen, .ref m_isFit, .ref m_cornerThen, .long 0, .ref m_images, .ref m_imageForce, .ref m_imageX, .ref m_isMade])), (m_said, .inl (K 0, 127, .inl (fun _ => 0)))] := G
  clear hH hlo
  refine lv_iload_n E.1 E.2.1 dX11_note_0 rfl (lv_at hl 1 rfl) ?_
  refine lv_iconst (v := (-1)) E.1 E.2.1 dX11_note_1 (by decide) ?_
  refine lv_icmp_ne (tgt := 15) E.1 E.2.1 dX11_note_2 (by decide) (fun c_1 => ?_) (fun c_1 => ?_)
  · skip
    refine lv_iload_n E.1 E.2.1 dX11_note_15 rfl (lv_at hl 1 rfl) ?_
    refine lv_i2l E.1 E.2.1 dX11_note_16 rfl ?_
    refine lv_lconst (v := 0) E.1 E.2.1 dX11_note_17 (by decide) ?_
    refine lv_ldc2 (v := 60) E.1 E.2.1 E.2.2.2.1 (E.2.2.2.2.1 _ mw_cL_11_429) dX11_note_18 ?_
    refine m_si E G hl (r_in l D K (p1.toInt64) 0 60) (wr := [(h0, .inr (11, [.ref m_tape, .int 0, .int 0, .ref m_sign, .ref m_length, .ref m_clause, .ref m_clauses, .ref m_read, .int 0, .int 0, .int 0, .int 0, .int 0, .int 0, .int 0, .ref m_open, .int 0, .ref m_stack, .int 0, .ref m_word, .ref m_said, .int (-1), .int 0, .ref m_goesTo, .ref m_hadBy, .ref m_wasSaid, .int 0, .ref m_kept, .ref m_hasBy, .ref m_standsThen, .ref m_isFit, .ref m_cornerThen, .long 0, .ref m_images, .ref m_imageForce, .ref m_imageX, .ref m_isMade])), (m_said, .inl (K 0, 127, .inl (fun _ => 0)))]) [] [0, 1] rfl rfl (by decide) (by decide) (by decide) 3 rfl mw_code_X11_in mw_ini_11 mw_ml_11_121 mw_stat_X11_in hd_X11_in ⟨by decide, by decide⟩ rfl (Nat.le_of_ble_eq_true rfl) ⟨by decide, by decide⟩ dX11_note_21 (fun r_3 u_2 H locs hp G => ?_)
    have G : mG D A s H locs [(h0, .inr (11, [.ref m_tape, .int 0, .int 0, .ref m_sign, .ref m_length, .ref m_clause, .ref m_clauses, .ref m_read, .int 0, .int 0, .int 0, .int 0, .int 0, .int 0, .int 0, .ref m_open, .int 0, .ref m_stack, .int 0, .ref m_word, .ref m_said, .int (-1), .int 0, .ref m_goesTo, .ref m_hadBy, .ref m_wasSaid, .int 0, .ref m_kept, .ref m_hasBy, .ref m_standsThen, .ref m_isFit, .ref m_cornerThen, .long 0, .ref m_images, .ref m_imageForce, .ref m_imageX, .ref m_isMade])), (m_said, .inl (K 0, 127, .inl (fun _ => 0)))] := G
    subst hp
    refine lv_if_eq (tgt := 55) E.1 E.2.1 dX11_note_24 (by decide) (fun c_4 => ?_) (fun c_4 => ?_)
    · skip
      refine lv_bipush (v := (-2)) E.1 E.2.1 dX11_note_55 (by decide) ?_
      exact m_reti E G hr rfl (fun _ => 0, fun _ _ => 0, fun _ _ => none) (by first | exact ans_note_1 ‹_› | exact ans_note_2 ‹_›) [] (by decide) rfl (by decide) (by decide) dX11_note_57
    · skip
      refine lv_aload_n E.1 E.2.1 dX11_note_27 rfl (lv_at hl 0 rfl) ?_
      refine lv_iload_n E.1 E.2.1 dX11_note_28 rfl (lv_at hl 2 rfl) ?_
      refine m_vi E G hl (r_isWalker l D K h0 m_tape m_sign m_length m_clause m_clauses m_read m_open m_stack m_word m_said m_goesTo m_hadBy m_wasSaid m_kept m_hasBy m_standsThen m_isFit m_cornerThen m_images m_imageForce m_imageX m_isMade p2) (wr := []) [0, 1] [] rfl rfl (by decide) (by decide) (by decide) 0 (ci := 11) rfl rfl rfl 1 rfl mw_code_X11_isWalker mw_ini_11 mw_ml_11_317 mw_inst_X11_isWalker mw_sel_X11_isWalker hd_X11_isWalker ⟨by decide, by decide⟩ rfl (Nat.le_of_ble_eq_true rfl) ⟨by decide, by decide⟩ dX11_note_29 (fun r_6 u_5 H locs hp G => ?_)
      have G : mG D A s H locs [] := G
      subst hp
      refine lv_if_eq (tgt := 55) E.1 E.2.1 dX11_note_32 (by decide) (fun _ => ?_) (fun h => absurd (by decide) h)
      refine lv_bipush (v := (-2)) E.1 E.2.1 dX11_note_55 (by decide) ?_
      exact m_reti E G hr rfl (fun _ => 0, fun _ _ => 0, fun _ _ => none) (by first | exact ans_note_1 ‹_› | exact ans_note_2 ‹_›) [] (by decide) rfl (by decide) (by decide) dX11_note_57
  · skip
    refine lv_aload_n E.1 E.2.1 dX11_note_5 rfl (lv_at hl 0 rfl) ?_
    refine m_get E G 0 (ci := 11) rfl 20 (C := RX11) (T := TX11) (N := 37) rfl (by decide) mw_fl_11_39 (v := .ref m_said) rfl dX11_note_6 ?_
    refine lv_bipush (v := 126) E.1 E.2.1 dX11_note_9 (by decide) ?_
    refine lv_iconst (v := 0) E.1 E.2.1 dX11_note_11 (by decide) ?_
    refine m_iast E G 1 rfl (by unfold vp_in; decide) dX11_note_12 (fun H locs G => ?_)
    obtain ⟨f_7, ef_7⟩ : ∃ f_7 : Nat → Int32, f_7 = (upd (fun _ => 0) (126 : Int32).toNatClampNeg (0 : Int32)) := ⟨_, rfl⟩
    have G : mG D A s H locs [(h0, .inr (11, [.ref m_tape, .int 0, .int 0, .ref m_sign, .ref m_length, .ref m_clause, .ref m_clauses, .ref m_read, .int 0, .int 0, .int 0, .int 0, .int 0, .int 0, .int 0, .ref m_open, .int 0, .ref m_stack, .int 0, .ref m_word, .ref m_said, .int (-1), .int 0, .ref m_goesTo, .ref m_hadBy, .ref m_wasSaid, .int 0, .ref m_kept, .ref m_hasBy, .ref m_standsThen, .ref m_isFit, .ref m_cornerThen, .long 0, .ref m_images, .ref m_imageForce, .ref m_imageX, .ref m_isMade])), (m_said, .inl (K 0, 127, .inl f_7))] := by subst ef_7; exact G
    clear ef_7
    refine lv_iconst (v := 0) E.1 E.2.1 dX11_note_13 (by decide) ?_
    exact m_reti E G hr rfl (fun _ => 0, fun _ _ => 0, fun _ _ => none) (by first | exact ans_note_1 ‹_› | exact ans_note_2 ‹_›) [] (by decide) rfl (by decide) (by decide) dX11_note_14
set_option maxHeartbeats 4000000 in
set_option maxRecDepth 100000 in
theorem r_seed (l : Launch) (D : va_G) (K : Nat → ClassId) (h0 : Nat) (m_tape : Nat) (m_sign : Nat) (m_length : Nat) (m_clause : Nat) (m_clauses : Nat) (m_read : Nat) (m_open : Nat) (m_stack : Nat) (m_word : Nat) (m_said : Nat) (m_goesTo : Nat) (m_hadBy : Nat) (m_wasSaid : Nat) (m_kept : Nat) (m_hasBy : Nat) (m_standsThen : Nat) (m_isFit : Nat) (m_cornerThen : Nat) (m_images : Nat) (m_imageForce : Nat) (m_imageX : Nat) (m_isMade : Nat) (p1 : Int32) : mI (S := mU) l yX11_seed cX11_seed 3 .int ({ frames := 0, cells := 0, slots := 0, locals := 0 }) D K [(h0, .inr (11, [.ref m_tape, .int 0, .int 0, .ref m_sign, .ref m_length, .ref m_clause, .ref m_clauses, .ref m_read, .int 0, .int 0, .int 0, .int 0, .int 0, .int 0, .int 0, .ref m_open, .int 0, .ref m_stack, .int 0, .ref m_word, .ref m_said, .int (-1), .int 0, .ref m_goesTo, .ref m_hadBy, .ref m_wasSaid, .int 0, .ref m_kept, .ref m_hasBy, .ref m_standsThen, .ref m_isFit, .ref m_cornerThen, .long 0, .ref m_images, .ref m_imageForce, .ref m_imageX, .ref m_isMade]))] [.ref h0, .int p1] (fun r u => r = ans_seed p1) (fun u => []) := by
  refine m_enterI (by decide) (Nat.le_of_ble_eq_true rfl) ?_
  intro p e s m args below meth c A ls E hr G hl
  have E : mE p s m meth c cX11_seed args 3 RX11 D K A := E
  have hl : lv_has ls 3 [(0, .ref h0), (1, .int p1)] := hl
  obtain ⟨H, hH⟩ : ∃ H, H = s.heap := ⟨_, rfl⟩
  obtain ⟨locs, hlo⟩ : ∃ L : List Loc, L = [] := ⟨_, rfl⟩
  rw [← hH, ← hlo] at G
  rw [← hH, ← hlo]
  have G : mG D A s H locs [(h0, .inr (11, [.ref m_tape, .int 0, .int 0, .ref m_sign, .ref m_length, .ref m_clause, .ref m_clauses, .ref m_read, .int 0, .int 0, .int 0, .int 0, .int 0, .int 0, .int 0, .ref m_open, .int 0, .ref m_stack, .int 0, .ref m_word, .ref m_said, .int (-1), .int 0, .ref m_goesTo, .ref m_hadBy, .ref m_wasSaid, .int 0, .ref m_kept, .ref m_hasBy, .ref m_standsThen, .ref m_isFit, .ref m_cornerThen, .long 0, .ref m_images, .ref m_imageForce, .ref m_imageX, .ref m_isMade]))] := G
  clear hH hlo
  refine lv_iload_n E.1 E.2.1 dX11_seed_0 rfl (lv_at hl 1 rfl) ?_
  refine lv_if_ge (tgt := 6) E.1 E.2.1 dX11_seed_1 (by decide) (fun c_1 => ?_) (fun c_1 => ?_)
  · skip
    refine lv_aload_n E.1 E.2.1 dX11_seed_6 rfl (lv_at hl 0 rfl) ?_
    refine m_get E G 0 (ci := 11) rfl 22 (C := RX11) (T := TX11) (N := 37) rfl (by decide) mw_fl_11_446 (v := .int 0) rfl dX11_seed_7 ?_
    refine lv_istore_n (lv' := [(2, .int 0), (0, .ref h0), (1, .int p1)]) E.1 E.2.1 dX11_seed_10 rfl hl (by decide) rfl (fun ls hl => ?_)
    refine lv_aload_n E.1 E.2.1 dX11_seed_11 rfl (lv_at hl 1 rfl) ?_
    refine lv_iload_n E.1 E.2.1 dX11_seed_12 rfl (lv_at hl 2 rfl) ?_
    refine m_put E G 0 (ci := 11) rfl 22 (C := RX11) (T := TX11) (N := 37) rfl (by decide) mw_fl_11_446 rfl rfl rfl (Nat.le_of_ble_eq_true rfl) dX11_seed_13 (fun H locs G => ?_)
    have G : mG D A s H locs [(h0, .inr (11, [.ref m_tape, .int 0, .int 0, .ref m_sign, .ref m_length, .ref m_clause, .ref m_clauses, .ref m_read, .int 0, .int 0, .int 0, .int 0, .int 0, .int 0, .int 0, .ref m_open, .int 0, .ref m_stack, .int 0, .ref m_word, .ref m_said, .int (-1), .int p1, .ref m_goesTo, .ref m_hadBy, .ref m_wasSaid, .int 0, .ref m_kept, .ref m_hasBy, .ref m_standsThen, .ref m_isFit, .ref m_cornerThen, .long 0, .ref m_images, .ref m_imageForce, .ref m_imageX, .ref m_isMade]))] := G
    refine lv_iload_n E.1 E.2.1 dX11_seed_16 rfl (lv_at hl 0 rfl) ?_
    exact m_reti E G hr rfl (fun _ => 0, fun _ _ => 0, fun _ _ => none) (by first | exact ans_seed_1 ‹_› | exact ans_seed_1 (Int32.not_le.mp ‹_›) | exact ans_seed_2 ‹_› | exact ans_seed_2 (Int32.not_lt.mpr ‹_›)) [] (by decide) rfl (by decide) (by decide) dX11_seed_17
  · skip
    refine lv_iconst (v := (-1)) E.1 E.2.1 dX11_seed_4 (by decide) ?_
    exact m_reti E G hr rfl (fun _ => 0, fun _ _ => 0, fun _ _ => none) (by first | exact ans_seed_1 ‹_› | exact ans_seed_1 (Int32.not_le.mp ‹_›) | exact ans_seed_2 ‹_› | exact ans_seed_2 (Int32.not_lt.mpr ‹_›)) [] (by decide) rfl (by decide) (by decide) dX11_seed_5
