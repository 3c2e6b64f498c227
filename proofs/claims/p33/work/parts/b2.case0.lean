theorem mw_code_X10_ahead : (Cond.code yX10_ahead cX10_ahead 4 (some .int) : Cond) ∈ cw := cw_of (List.mem_append_right _ (List.mem_append_right _ (List.mem_append_right _ (List.mem_append_right _ (List.mem_append_left _ (List.mem_of_getElem? (i := 165) rfl)))))) (by decide +kernel)
theorem mw_code_X10_back : (Cond.code yX10_back cX10_back 2 (some .int) : Cond) ∈ cw := cw_of (List.mem_append_right _ (List.mem_append_right _ (List.mem_append_right _ (List.mem_append_right _ (List.mem_append_right _ (List.mem_append_left _ (List.mem_of_getElem? (i := 100) rfl))))))) (by decide +kernel)
theorem mw_code_X10_bait : (Cond.code yX10_bait cX10_bait 4 (some .int) : Cond) ∈ cw := cw_of (List.mem_append_right _ (List.mem_append_right _ (List.mem_append_right _ (List.mem_append_right _ (List.mem_append_left _ (List.mem_of_getElem? (i := 149) rfl)))))) (by decide +kernel)
theorem mw_code_X10_best : (Cond.code yX10_best cX10_best 4 (some .int) : Cond) ∈ cw := cw_of (List.mem_append_right _ (List.mem_append_right _ (List.mem_append_right _ (List.mem_append_right _ (List.mem_append_right _ (List.mem_append_left _ (List.mem_of_getElem? (i := 3) rfl))))))) (by decide +kernel)
theorem mw_code_X10_calm : (Cond.code yX10_calm cX10_calm 4 (some .int) : Cond) ∈ cw := cw_of (List.mem_append_right _ (List.mem_append_right _ (List.mem_append_right _ (List.mem_append_right _ (List.mem_append_left _ (List.mem_of_getElem? (i := 153) rfl)))))) (by decide +kernel)
theorem mw_code_X10_count : (Cond.code yX10_count cX10_count 2 (some .int) : Cond) ∈ cw := cw_of (List.mem_append_right _ (List.mem_append_right _ (List.mem_append_right _ (List.mem_append_right _ (List.mem_append_left _ (List.mem_of_getElem? (i := 42) rfl)))))) (by decide +kernel)
theorem mw_code_X10_cover : (Cond.code yX10_cover cX10_cover 5 (some .int) : Cond) ∈ cw := cw_of (List.mem_append_right _ (List.mem_append_right _ (List.mem_append_right _ (List.mem_append_right _ (List.mem_append_left _ (List.mem_of_getElem? (i := 235) rfl)))))) (by decide +kernel)
theorem mw_code_X10_end : (Cond.code yX10_end cX10_end 2 (some .int) : Cond) ∈ cw := cw_of (List.mem_append_right _ (List.mem_append_right _ (List.mem_append_left _ (List.mem_of_getElem? (i := 191) rfl)))) (by decide +kernel)
theorem mw_code_X10_far : (Cond.code yX10_far cX10_far 3 (some .int) : Cond) ∈ cw := cw_of (List.mem_append_right _ (List.mem_append_right _ (List.mem_append_right _ (List.mem_append_right _ (List.mem_append_left _ (List.mem_of_getElem? (i := 220) rfl)))))) (by decide +kernel)
theorem mw_code_X10_feed : (Cond.code yX10_feed cX10_feed 6 (some .int) : Cond) ∈ cw := cw_of (List.mem_append_right _ (List.mem_append_right _ (List.mem_append_left _ (List.mem_of_getElem? (i := 183) rfl)))) (by decide +kernel)
theorem mw_code_X10_first : (Cond.code yX10_first cX10_first 4 (some .int) : Cond) ∈ cw := cw_of (List.mem_append_right _ (List.mem_append_right _ (List.mem_append_right _ (List.mem_append_right _ (List.mem_append_left _ (List.mem_of_getElem? (i := 182) rfl)))))) (by decide +kernel)
theorem mw_code_X10_force : (Cond.code yX10_force cX10_force 3 (some .int) : Cond) ∈ cw := cw_of (List.mem_append_right _ (List.mem_append_right _ (List.mem_append_right _ (List.mem_append_right _ (List.mem_append_left _ (List.mem_of_getElem? (i := 10) rfl)))))) (by decide +kernel)
theorem mw_code_X10_had : (Cond.code yX10_had cX10_had 3 (some .int) : Cond) ∈ cw := cw_of (List.mem_append_right _ (List.mem_append_right _ (List.mem_append_right _ (List.mem_append_right _ (List.mem_append_left _ (List.mem_of_getElem? (i := 174) rfl)))))) (by decide +kernel)
theorem mw_code_X10_hearts : (Cond.code yX10_hearts cX10_hearts 2 (some .int) : Cond) ∈ cw := cw_of (List.mem_append_right _ (List.mem_append_right _ (List.mem_append_right _ (List.mem_append_right _ (List.mem_append_right _ (List.mem_append_left _ (List.mem_of_getElem? (i := 43) rfl))))))) (by decide +kernel)
theorem mw_code_X10_image : (Cond.code yX10_image cX10_image 2 (some .int) : Cond) ∈ cw := cw_of (List.mem_append_right _ (List.mem_append_right _ (List.mem_append_right _ (List.mem_append_right _ (List.mem_append_right _ (List.mem_append_left _ (List.mem_of_getElem? (i := 85) rfl))))))) (by decide +kernel)
theorem mw_code_X10_kind : (Cond.code yX10_kind cX10_kind 4 (some .int) : Cond) ∈ cw := cw_of (List.mem_append_right _ (List.mem_append_right _ (List.mem_append_right _ (List.mem_append_right _ (List.mem_append_right _ (List.mem_append_left _ (List.mem_of_getElem? (i := 11) rfl))))))) (by decide +kernel)
theorem mw_code_X10_look : (Cond.code yX10_look cX10_look 7 (some .int) : Cond) ∈ cw := cw_of (List.mem_append_right _ (List.mem_append_right _ (List.mem_append_right _ (List.mem_append_right _ (List.mem_append_right _ (List.mem_append_left _ (List.mem_of_getElem? (i := 72) rfl))))))) (by decide +kernel)
theorem mw_code_X10_lure : (Cond.code yX10_lure cX10_lure 3 (some .int) : Cond) ∈ cw := cw_of (List.mem_append_right _ (List.mem_append_right _ (List.mem_append_right _ (List.mem_append_right _ (List.mem_append_left _ (List.mem_of_getElem? (i := 14) rfl)))))) (by decide +kernel)
theorem mw_code_X10_move : (Cond.code yX10_move cX10_move 4 (some .int) : Cond) ∈ cw := cw_of (List.mem_append_right _ (List.mem_append_right _ (List.mem_append_right _ (List.mem_append_right _ (List.mem_append_left _ (List.mem_of_getElem? (i := 141) rfl)))))) (by decide +kernel)
theorem mw_code_X10_nights : (Cond.code yX10_nights cX10_nights 9 (some .int) : Cond) ∈ cw := cw_of (List.mem_append_right _ (List.mem_append_right _ (List.mem_append_right _ (List.mem_append_right _ (List.mem_append_left _ (List.mem_of_getElem? (i := 194) rfl)))))) (by decide +kernel)
theorem mw_code_X10_note : (Cond.code yX10_note cX10_note 4 (some .int) : Cond) ∈ cw := cw_of (List.mem_append_right _ (List.mem_append_right _ (List.mem_append_right _ (List.mem_append_right _ (List.mem_append_right _ (List.mem_append_left _ (List.mem_of_getElem? (i := 35) rfl))))))) (by decide +kernel)
theorem mw_code_X10_pence : (Cond.code yX10_pence cX10_pence 9 (some .int) : Cond) ∈ cw := cw_of (List.mem_append_right _ (List.mem_append_right _ (List.mem_append_right _ (List.mem_append_right _ (List.mem_append_right _ (List.mem_append_left _ (List.mem_of_getElem? (i := 31) rfl))))))) (by decide +kernel)
theorem mw_code_X10_rests : (Cond.code yX10_rests cX10_rests 8 (some .int) : Cond) ∈ cw := cw_of (List.mem_append_right _ (List.mem_append_right _ (List.mem_append_right _ (List.mem_append_right _ (List.mem_append_right _ (List.mem_append_left _ (List.mem_of_getElem? (i := 15) rfl))))))) (by decide +kernel)
theorem mw_code_X10_ring : (Cond.code yX10_ring cX10_ring 4 (some .int) : Cond) ∈ cw := cw_of (List.mem_append_right _ (List.mem_append_right _ (List.mem_append_right _ (List.mem_append_right _ (List.mem_append_left _ (List.mem_of_getElem? (i := 186) rfl)))))) (by decide +kernel)
theorem mw_code_X10_rule : (Cond.code yX10_rule cX10_rule 1 (some .int) : Cond) ∈ cw := cw_of (List.mem_append_right _ (List.mem_append_right _ (List.mem_append_right _ (List.mem_append_left _ (List.mem_of_getElem? (i := 180) rfl))))) (by decide +kernel)
theorem mw_code_X10_ruled : (Cond.code yX10_ruled cX10_ruled 5 (some .int) : Cond) ∈ cw := cw_of (List.mem_append_right _ (List.mem_append_right _ (List.mem_append_right _ (List.mem_append_right _ (List.mem_append_right _ (List.mem_append_left _ (List.mem_of_getElem? (i := 68) rfl))))))) (by decide +kernel)
theorem mw_code_X10_safe : (Cond.code yX10_safe cX10_safe 4 (some .int) : Cond) ∈ cw := cw_of (List.mem_append_right _ (List.mem_append_right _ (List.mem_append_right _ (List.mem_append_right _ (List.mem_append_left _ (List.mem_of_getElem? (i := 225) rfl)))))) (by decide +kernel)
theorem mw_code_X10_seed : (Cond.code yX10_seed cX10_seed 3 (some .int) : Cond) ∈ cw := cw_of (List.mem_append_right _ (List.mem_append_right _ (List.mem_append_right _ (List.mem_append_right _ (List.mem_append_left _ (List.mem_of_getElem? (i := 216) rfl)))))) (by decide +kernel)
theorem mw_code_X10_set : (Cond.code yX10_set cX10_set 4 (some .int) : Cond) ∈ cw := cw_of (List.mem_append_right _ (List.mem_append_right _ (List.mem_append_right _ (List.mem_append_right _ (List.mem_append_left _ (List.mem_of_getElem? (i := 136) rfl)))))) (by decide +kernel)
theorem mw_code_X10_step : (Cond.code yX10_step cX10_step 2 (some .int) : Cond) ∈ cw := cw_of (List.mem_append_right _ (List.mem_append_right _ (List.mem_append_right _ (List.mem_append_right _ (List.mem_append_left _ (List.mem_of_getElem? (i := 54) rfl)))))) (by decide +kernel)
theorem mw_code_X10_stuck : (Cond.code yX10_stuck cX10_stuck 6 (some .int) : Cond) ∈ cw := cw_of (List.mem_append_right _ (List.mem_append_right _ (List.mem_append_right _ (List.mem_append_right _ (List.mem_append_left _ (List.mem_of_getElem? (i := 231) rfl)))))) (by decide +kernel)
theorem mw_code_X10_town : (Cond.code yX10_town cX10_town 1 (some .int) : Cond) ∈ cw := cw_of (List.mem_append_right _ (List.mem_append_right _ (List.mem_append_left _ (List.mem_of_getElem? (i := 195) rfl)))) (by decide +kernel)
theorem mw_code_X10_undo : (Cond.code yX10_undo cX10_undo 1 (some .int) : Cond) ∈ cw := cw_of (List.mem_append_right _ (List.mem_append_right _ (List.mem_append_right _ (List.mem_append_right _ (List.mem_append_left _ (List.mem_of_getElem? (i := 157) rfl)))))) (by decide +kernel)
theorem mw_code_X10_walker : (Cond.code yX10_walker cX10_walker 3 (some .int) : Cond) ∈ cw := cw_of (List.mem_append_right _ (List.mem_append_right _ (List.mem_append_right _ (List.mem_append_right _ (List.mem_append_left _ (List.mem_of_getElem? (i := 26) rfl)))))) (by decide +kernel)
theorem mw_code_X10_waries : (Cond.code yX10_waries cX10_waries 2 (some .int) : Cond) ∈ cw := cw_of (List.mem_append_right _ (List.mem_append_right _ (List.mem_append_right _ (List.mem_append_right _ (List.mem_append_right _ (List.mem_append_left _ (List.mem_of_getElem? (i := 64) rfl))))))) (by decide +kernel)
theorem mw_code_X10_ways : (Cond.code yX10_ways cX10_ways 2 (some .int) : Cond) ∈ cw := cw_of (List.mem_append_right _ (List.mem_append_right _ (List.mem_append_right _ (List.mem_append_right _ (List.mem_append_left _ (List.mem_of_getElem? (i := 34) rfl)))))) (by decide +kernel)
theorem mw_code_X11_ahead : (Cond.code yX11_ahead cX11_ahead 5 (some .int) : Cond) ∈ cw := cw_of (List.mem_append_right _ (List.mem_append_right _ (List.mem_append_right _ (List.mem_append_right _ (List.mem_append_right _ (List.mem_append_right _ (List.mem_append_right _ (List.mem_append_left _ (List.mem_of_getElem? (i := 69) rfl))))))))) (by decide +kernel)
theorem mw_code_X11_back : (Cond.code yX11_back cX11_back 3 (some .int) : Cond) ∈ cw := cw_of (List.mem_append_right _ (List.mem_append_right _ (List.mem_append_right _ (List.mem_append_right _ (List.mem_append_right _ (List.mem_append_right _ (List.mem_append_right _ (List.mem_append_right _ (List.mem_of_getElem? (i := 14) rfl))))))))) (by decide +kernel)
theorem mw_code_X11_bait : (Cond.code yX11_bait cX11_bait 4 (some .int) : Cond) ∈ cw := cw_of (List.mem_append_right _ (List.mem_append_right _ (List.mem_append_right _ (List.mem_append_right _ (List.mem_append_right _ (List.mem_append_right _ (List.mem_append_right _ (List.mem_append_left _ (List.mem_of_getElem? (i := 59) rfl))))))))) (by decide +kernel)
theorem mw_code_X11_best : (Cond.code yX11_best cX11_best 4 (some .int) : Cond) ∈ cw := cw_of (List.mem_append_right _ (List.mem_append_right _ (List.mem_append_right _ (List.mem_append_right _ (List.mem_append_right _ (List.mem_append_right _ (List.mem_append_right _ (List.mem_append_left _ (List.mem_of_getElem? (i := 121) rfl))))))))) (by decide +kernel)
theorem mw_code_X11_calm : (Cond.code yX11_calm cX11_calm 4 (some .int) : Cond) ∈ cw := cw_of (List.mem_append_right _ (List.mem_append_right _ (List.mem_append_right _ (List.mem_append_right _ (List.mem_append_right _ (List.mem_append_right _ (List.mem_append_right _ (List.mem_append_left _ (List.mem_of_getElem? (i := 64) rfl))))))))) (by decide +kernel)
theorem mw_code_X11_count : (Cond.code yX11_count cX11_count 2 (some .int) : Cond) ∈ cw := cw_of (List.mem_append_right _ (List.mem_append_right _ (List.mem_append_right _ (List.mem_append_right _ (List.mem_append_right _ (List.mem_append_right _ (List.mem_append_right _ (List.mem_append_right _ (List.mem_of_getElem? (i := 1) rfl))))))))) (by decide +kernel)
theorem mw_code_X11_cover : (Cond.code yX11_cover cX11_cover 4 (some .int) : Cond) ∈ cw := cw_of (List.mem_append_right _ (List.mem_append_right _ (List.mem_append_right _ (List.mem_append_right _ (List.mem_append_right _ (List.mem_append_right _ (List.mem_append_right _ (List.mem_append_left _ (List.mem_of_getElem? (i := 142) rfl))))))))) (by decide +kernel)
theorem mw_code_X11_end : (Cond.code yX11_end cX11_end 2 (some .int) : Cond) ∈ cw := cw_of (List.mem_append_right _ (List.mem_append_right _ (List.mem_append_right _ (List.mem_append_right _ (List.mem_append_right _ (List.mem_append_left _ (List.mem_of_getElem? (i := 231) rfl))))))) (by decide +kernel)
theorem mw_code_X11_far : (Cond.code yX11_far cX11_far 2 (some .int) : Cond) ∈ cw := cw_of (List.mem_append_right _ (List.mem_append_right _ (List.mem_append_right _ (List.mem_append_right _ (List.mem_append_right _ (List.mem_append_right _ (List.mem_append_right _ (List.mem_append_left _ (List.mem_of_getElem? (i := 102) rfl))))))))) (by decide +kernel)
theorem mw_code_X11_feed : (Cond.code yX11_feed cX11_feed 6 (some .int) : Cond) ∈ cw := cw_of (List.mem_append_right _ (List.mem_append_right _ (List.mem_append_right _ (List.mem_append_right _ (List.mem_append_right _ (List.mem_append_left _ (List.mem_of_getElem? (i := 223) rfl))))))) (by decide +kernel)
theorem mw_code_X11_first : (Cond.code yX11_first cX11_first 5 (some .int) : Cond) ∈ cw := cw_of (List.mem_append_right _ (List.mem_append_right _ (List.mem_append_right _ (List.mem_append_right _ (List.mem_append_right _ (List.mem_append_right _ (List.mem_append_right _ (List.mem_append_left _ (List.mem_of_getElem? (i := 95) rfl))))))))) (by decide +kernel)
theorem mw_code_X11_force : (Cond.code yX11_force cX11_force 3 (some .int) : Cond) ∈ cw := cw_of (List.mem_append_right _ (List.mem_append_right _ (List.mem_append_right _ (List.mem_append_right _ (List.mem_append_right _ (List.mem_append_right _ (List.mem_append_left _ (List.mem_of_getElem? (i := 157) rfl)))))))) (by decide +kernel)
theorem mw_code_X11_had : (Cond.code yX11_had cX11_had 5 (some .int) : Cond) ∈ cw := cw_of (List.mem_append_right _ (List.mem_append_right _ (List.mem_append_right _ (List.mem_append_right _ (List.mem_append_right _ (List.mem_append_right _ (List.mem_append_right _ (List.mem_append_left _ (List.mem_of_getElem? (i := 91) rfl))))))))) (by decide +kernel)
theorem mw_code_X11_hearts : (Cond.code yX11_hearts cX11_hearts 2 (some .int) : Cond) ∈ cw := cw_of (List.mem_append_right _ (List.mem_append_right _ (List.mem_append_right _ (List.mem_append_right _ (List.mem_append_right _ (List.mem_append_right _ (List.mem_append_right _ (List.mem_append_left _ (List.mem_of_getElem? (i := 212) rfl))))))))) (by decide +kernel)
theorem mw_code_X11_image : (Cond.code yX11_image cX11_image 3 (some .int) : Cond) ∈ cw := cw_of (List.mem_append_right _ (List.mem_append_right _ (List.mem_append_right _ (List.mem_append_right _ (List.mem_append_right _ (List.mem_append_right _ (List.mem_append_right _ (List.mem_append_right _ (List.mem_of_getElem? (i := 9) rfl))))))))) (by decide +kernel)
theorem mw_code_X11_kind : (Cond.code yX11_kind cX11_kind 4 (some .int) : Cond) ∈ cw := cw_of (List.mem_append_right _ (List.mem_append_right _ (List.mem_append_right _ (List.mem_append_right _ (List.mem_append_right _ (List.mem_append_right _ (List.mem_append_right _ (List.mem_append_left _ (List.mem_of_getElem? (i := 138) rfl))))))))) (by decide +kernel)
theorem mw_code_X11_look : (Cond.code yX11_look cX11_look 7 (some .int) : Cond) ∈ cw := cw_of (List.mem_append_right _ (List.mem_append_right _ (List.mem_append_right _ (List.mem_append_right _ (List.mem_append_right _ (List.mem_append_right _ (List.mem_append_right _ (List.mem_append_left _ (List.mem_of_getElem? (i := 204) rfl))))))))) (by decide +kernel)
theorem mw_code_X11_lure : (Cond.code yX11_lure cX11_lure 3 (some .int) : Cond) ∈ cw := cw_of (List.mem_append_right _ (List.mem_append_right _ (List.mem_append_right _ (List.mem_append_right _ (List.mem_append_right _ (List.mem_append_right _ (List.mem_append_left _ (List.mem_of_getElem? (i := 165) rfl)))))))) (by decide +kernel)
theorem mw_code_X11_move : (Cond.code yX11_move cX11_move 4 (some .int) : Cond) ∈ cw := cw_of (List.mem_append_right _ (List.mem_append_right _ (List.mem_append_right _ (List.mem_append_right _ (List.mem_append_right _ (List.mem_append_right _ (List.mem_append_right _ (List.mem_append_left _ (List.mem_of_getElem? (i := 55) rfl))))))))) (by decide +kernel)
theorem mw_code_X11_nights : (Cond.code yX11_nights cX11_nights 9 (some .int) : Cond) ∈ cw := cw_of (List.mem_append_right _ (List.mem_append_right _ (List.mem_append_right _ (List.mem_append_right _ (List.mem_append_right _ (List.mem_append_right _ (List.mem_append_right _ (List.mem_append_left _ (List.mem_of_getElem? (i := 228) rfl))))))))) (by decide +kernel)
theorem mw_code_X11_note : (Cond.code yX11_note cX11_note 5 (some .int) : Cond) ∈ cw := cw_of (List.mem_append_right _ (List.mem_append_right _ (List.mem_append_right _ (List.mem_append_right _ (List.mem_append_right _ (List.mem_append_right _ (List.mem_append_right _ (List.mem_append_left _ (List.mem_of_getElem? (i := 183) rfl))))))))) (by decide +kernel)
theorem mw_code_X11_pence : (Cond.code yX11_pence cX11_pence 9 (some .int) : Cond) ∈ cw := cw_of (List.mem_append_right _ (List.mem_append_right _ (List.mem_append_right _ (List.mem_append_right _ (List.mem_append_right _ (List.mem_append_right _ (List.mem_append_right _ (List.mem_append_left _ (List.mem_of_getElem? (i := 178) rfl))))))))) (by decide +kernel)
theorem mw_code_X11_rests : (Cond.code yX11_rests cX11_rests 9 (some .int) : Cond) ∈ cw := cw_of (List.mem_append_right _ (List.mem_append_right _ (List.mem_append_right _ (List.mem_append_right _ (List.mem_append_right _ (List.mem_append_right _ (List.mem_append_right _ (List.mem_append_left _ (List.mem_of_getElem? (i := 153) rfl))))))))) (by decide +kernel)
theorem mw_code_X11_ring : (Cond.code yX11_ring cX11_ring 4 (some .int) : Cond) ∈ cw := cw_of (List.mem_append_right _ (List.mem_append_right _ (List.mem_append_right _ (List.mem_append_right _ (List.mem_append_right _ (List.mem_append_right _ (List.mem_append_right _ (List.mem_append_left _ (List.mem_of_getElem? (i := 170) rfl))))))))) (by decide +kernel)
theorem mw_code_X11_rule : (Cond.code yX11_rule cX11_rule 1 (some .int) : Cond) ∈ cw := cw_of (List.mem_append_right _ (List.mem_append_right _ (List.mem_append_right _ (List.mem_append_right _ (List.mem_append_right _ (List.mem_append_left _ (List.mem_of_getElem? (i := 235) rfl))))))) (by decide +kernel)
theorem mw_code_X11_ruled : (Cond.code yX11_ruled cX11_ruled 5 (some .int) : Cond) ∈ cw := cw_of (List.mem_append_right _ (List.mem_append_right _ (List.mem_append_right _ (List.mem_append_right _ (List.mem_append_right _ (List.mem_append_right _ (List.mem_append_right _ (List.mem_append_left _ (List.mem_of_getElem? (i := 188) rfl))))))))) (by decide +kernel)
theorem mw_code_X11_safe : (Cond.code yX11_safe cX11_safe 2 (some .int) : Cond) ∈ cw := cw_of (List.mem_append_right _ (List.mem_append_right _ (List.mem_append_right _ (List.mem_append_right _ (List.mem_append_right _ (List.mem_append_right _ (List.mem_append_right _ (List.mem_append_left _ (List.mem_of_getElem? (i := 109) rfl))))))))) (by decide +kernel)
theorem mw_code_X11_seed : (Cond.code yX11_seed cX11_seed 3 (some .int) : Cond) ∈ cw := cw_of (List.mem_append_right _ (List.mem_append_right _ (List.mem_append_right _ (List.mem_append_right _ (List.mem_append_right _ (List.mem_append_right _ (List.mem_append_right _ (List.mem_append_left _ (List.mem_of_getElem? (i := 224) rfl))))))))) (by decide +kernel)
theorem mw_code_X11_set : (Cond.code yX11_set cX11_set 4 (some .int) : Cond) ∈ cw := cw_of (List.mem_append_right _ (List.mem_append_right _ (List.mem_append_right _ (List.mem_append_right _ (List.mem_append_right _ (List.mem_append_right _ (List.mem_append_right _ (List.mem_append_left _ (List.mem_of_getElem? (i := 51) rfl))))))))) (by decide +kernel)
theorem mw_code_X11_step : (Cond.code yX11_step cX11_step 1 (some .int) : Cond) ∈ cw := cw_of (List.mem_append_right _ (List.mem_append_right _ (List.mem_append_right _ (List.mem_append_right _ (List.mem_append_right _ (List.mem_append_right _ (List.mem_append_left _ (List.mem_of_getElem? (i := 213) rfl)))))))) (by decide +kernel)
theorem mw_code_X11_stuck : (Cond.code yX11_stuck cX11_stuck 6 (some .int) : Cond) ∈ cw := cw_of (List.mem_append_right _ (List.mem_append_right _ (List.mem_append_right _ (List.mem_append_right _ (List.mem_append_right _ (List.mem_append_right _ (List.mem_append_right _ (List.mem_append_left _ (List.mem_of_getElem? (i := 117) rfl))))))))) (by decide +kernel)
theorem mw_code_X11_town : (Cond.code yX11_town cX11_town 2 (some .int) : Cond) ∈ cw := cw_of (List.mem_append_right _ (List.mem_append_right _ (List.mem_append_right _ (List.mem_append_right _ (List.mem_append_right _ (List.mem_append_right _ (List.mem_append_left _ (List.mem_of_getElem? (i := 149) rfl)))))))) (by decide +kernel)
theorem mw_code_X11_undo : (Cond.code yX11_undo cX11_undo 2 (some .int) : Cond) ∈ cw := cw_of (List.mem_append_right _ (List.mem_append_right _ (List.mem_append_right _ (List.mem_append_right _ (List.mem_append_right _ (List.mem_append_right _ (List.mem_append_left _ (List.mem_of_getElem? (i := 209) rfl)))))))) (by decide +kernel)
theorem mw_code_X11_walker : (Cond.code yX11_walker cX11_walker 3 (some .int) : Cond) ∈ cw := cw_of (List.mem_append_right _ (List.mem_append_right _ (List.mem_append_right _ (List.mem_append_right _ (List.mem_append_right _ (List.mem_append_right _ (List.mem_append_left _ (List.mem_of_getElem? (i := 181) rfl)))))))) (by decide +kernel)
theorem mw_code_X11_waries : (Cond.code yX11_waries cX11_waries 2 (some .int) : Cond) ∈ cw := cw_of (List.mem_append_right _ (List.mem_append_right _ (List.mem_append_right _ (List.mem_append_right _ (List.mem_append_right _ (List.mem_append_right _ (List.mem_append_right _ (List.mem_append_left _ (List.mem_of_getElem? (i := 220) rfl))))))))) (by decide +kernel)
theorem mw_code_X11_ways : (Cond.code yX11_ways cX11_ways 2 (some .int) : Cond) ∈ cw := cw_of (List.mem_append_right _ (List.mem_append_right _ (List.mem_append_right _ (List.mem_append_right _ (List.mem_append_right _ (List.mem_append_right _ (List.mem_append_left _ (List.mem_of_getElem? (i := 201) rfl)))))))) (by decide +kernel)
theorem mw_inst_X10_ahead : (Cond.instanceMethod yX10_ahead : Cond) ∈ cw := cw_of (List.mem_append_right _ (List.mem_append_right _ (List.mem_append_right _ (List.mem_append_right _ (List.mem_append_left _ (List.mem_of_getElem? (i := 163) (by decide +kernel))))))) (by decide +kernel)
theorem mw_inst_X10_back : (Cond.instanceMethod yX10_back : Cond) ∈ cw := cw_of (List.mem_append_right _ (List.mem_append_right _ (List.mem_append_right _ (List.mem_append_right _ (List.mem_append_right _ (List.mem_append_left _ (List.mem_of_getElem? (i := 98) (by decide +kernel)))))))) (by decide +kernel)
theorem mw_inst_X10_bait : (Cond.instanceMethod yX10_bait : Cond) ∈ cw := cw_of (List.mem_append_right _ (List.mem_append_right _ (List.mem_append_right _ (List.mem_append_right _ (List.mem_append_left _ (List.mem_of_getElem? (i := 147) (by decide +kernel))))))) (by decide +kernel)
theorem mw_inst_X10_best : (Cond.instanceMethod yX10_best : Cond) ∈ cw := cw_of (List.mem_append_right _ (List.mem_append_right _ (List.mem_append_right _ (List.mem_append_right _ (List.mem_append_right _ (List.mem_append_left _ (List.mem_of_getElem? (i := 1) (by decide +kernel)))))))) (by decide +kernel)
theorem mw_inst_X10_calm : (Cond.instanceMethod yX10_calm : Cond) ∈ cw := cw_of (List.mem_append_right _ (List.mem_append_right _ (List.mem_append_right _ (List.mem_append_right _ (List.mem_append_left _ (List.mem_of_getElem? (i := 151) (by decide +kernel))))))) (by decide +kernel)
theorem mw_inst_X10_count : (Cond.instanceMethod yX10_count : Cond) ∈ cw := cw_of (List.mem_append_right _ (List.mem_append_right _ (List.mem_append_right _ (List.mem_append_right _ (List.mem_append_left _ (List.mem_of_getElem? (i := 40) (by decide +kernel))))))) (by decide +kernel)
theorem mw_inst_X10_cover : (Cond.instanceMethod yX10_cover : Cond) ∈ cw := cw_of (List.mem_append_right _ (List.mem_append_right _ (List.mem_append_right _ (List.mem_append_right _ (List.mem_append_left _ (List.mem_of_getElem? (i := 233) (by decide +kernel))))))) (by decide +kernel)
theorem mw_inst_X10_end : (Cond.instanceMethod yX10_end : Cond) ∈ cw := cw_of (List.mem_append_right _ (List.mem_append_right _ (List.mem_append_left _ (List.mem_of_getElem? (i := 189) (by decide +kernel))))) (by decide +kernel)
theorem mw_inst_X10_far : (Cond.instanceMethod yX10_far : Cond) ∈ cw := cw_of (List.mem_append_right _ (List.mem_append_right _ (List.mem_append_right _ (List.mem_append_right _ (List.mem_append_left _ (List.mem_of_getElem? (i := 218) (by decide +kernel))))))) (by decide +kernel)
theorem mw_inst_X10_feed : (Cond.instanceMethod yX10_feed : Cond) ∈ cw := cw_of (List.mem_append_right _ (List.mem_append_right _ (List.mem_append_left _ (List.mem_of_getElem? (i := 181) (by decide +kernel))))) (by decide +kernel)
theorem mw_inst_X10_first : (Cond.instanceMethod yX10_first : Cond) ∈ cw := cw_of (List.mem_append_right _ (List.mem_append_right _ (List.mem_append_right _ (List.mem_append_right _ (List.mem_append_left _ (List.mem_of_getElem? (i := 180) (by decide +kernel))))))) (by decide +kernel)
theorem mw_inst_X10_force : (Cond.instanceMethod yX10_force : Cond) ∈ cw := cw_of (List.mem_append_right _ (List.mem_append_right _ (List.mem_append_right _ (List.mem_append_right _ (List.mem_append_left _ (List.mem_of_getElem? (i := 8) (by decide +kernel))))))) (by decide +kernel)
theorem mw_inst_X10_had : (Cond.instanceMethod yX10_had : Cond) ∈ cw := cw_of (List.mem_append_right _ (List.mem_append_right _ (List.mem_append_right _ (List.mem_append_right _ (List.mem_append_left _ (List.mem_of_getElem? (i := 172) (by decide +kernel))))))) (by decide +kernel)
theorem mw_inst_X10_hearts : (Cond.instanceMethod yX10_hearts : Cond) ∈ cw := cw_of (List.mem_append_right _ (List.mem_append_right _ (List.mem_append_right _ (List.mem_append_right _ (List.mem_append_right _ (List.mem_append_left _ (List.mem_of_getElem? (i := 41) (by decide +kernel)))))))) (by decide +kernel)
theorem mw_inst_X10_image : (Cond.instanceMethod yX10_image : Cond) ∈ cw := cw_of (List.mem_append_right _ (List.mem_append_right _ (List.mem_append_right _ (List.mem_append_right _ (List.mem_append_right _ (List.mem_append_left _ (List.mem_of_getElem? (i := 83) (by decide +kernel)))))))) (by decide +kernel)
theorem mw_inst_X10_kind : (Cond.instanceMethod yX10_kind : Cond) ∈ cw := cw_of (List.mem_append_right _ (List.mem_append_right _ (List.mem_append_right _ (List.mem_append_right _ (List.mem_append_right _ (List.mem_append_left _ (List.mem_of_getElem? (i := 9) (by decide +kernel)))))))) (by decide +kernel)
theorem mw_inst_X10_look : (Cond.instanceMethod yX10_look : Cond) ∈ cw := cw_of (List.mem_append_right _ (List.mem_append_right _ (List.mem_append_right _ (List.mem_append_right _ (List.mem_append_right _ (List.mem_append_left _ (List.mem_of_getElem? (i := 70) (by decide +kernel)))))))) (by decide +kernel)
theorem mw_inst_X10_lure : (Cond.instanceMethod yX10_lure : Cond) ∈ cw := cw_of (List.mem_append_right _ (List.mem_append_right _ (List.mem_append_right _ (List.mem_append_right _ (List.mem_append_left _ (List.mem_of_getElem? (i := 12) (by decide +kernel))))))) (by decide +kernel)
theorem mw_inst_X10_move : (Cond.instanceMethod yX10_move : Cond) ∈ cw := cw_of (List.mem_append_right _ (List.mem_append_right _ (List.mem_append_right _ (List.mem_append_right _ (List.mem_append_left _ (List.mem_of_getElem? (i := 139) (by decide +kernel))))))) (by decide +kernel)
theorem mw_inst_X10_nights : (Cond.instanceMethod yX10_nights : Cond) ∈ cw := cw_of (List.mem_append_right _ (List.mem_append_right _ (List.mem_append_right _ (List.mem_append_right _ (List.mem_append_left _ (List.mem_of_getElem? (i := 192) (by decide +kernel))))))) (by decide +kernel)
theorem mw_inst_X10_note : (Cond.instanceMethod yX10_note : Cond) ∈ cw := cw_of (List.mem_append_right _ (List.mem_append_right _ (List.mem_append_right _ (List.mem_append_right _ (List.mem_append_right _ (List.mem_append_left _ (List.mem_of_getElem? (i := 33) (by decide +kernel)))))))) (by decide +kernel)
theorem mw_inst_X10_pence : (Cond.instanceMethod yX10_pence : Cond) ∈ cw := cw_of (List.mem_append_right _ (List.mem_append_right _ (List.mem_append_right _ (List.mem_append_right _ (List.mem_append_right _ (List.mem_append_left _ (List.mem_of_getElem? (i := 29) (by decide +kernel)))))))) (by decide +kernel)
theorem mw_inst_X10_rests : (Cond.instanceMethod yX10_rests : Cond) ∈ cw := cw_of (List.mem_append_right _ (List.mem_append_right _ (List.mem_append_right _ (List.mem_append_right _ (List.mem_append_right _ (List.mem_append_left _ (List.mem_of_getElem? (i := 13) (by decide +kernel)))))))) (by decide +kernel)
theorem mw_inst_X10_ring : (Cond.instanceMethod yX10_ring : Cond) ∈ cw := cw_of (List.mem_append_right _ (List.mem_append_right _ (List.mem_append_right _ (List.mem_append_right _ (List.mem_append_left _ (List.mem_of_getElem? (i := 184) (by decide +kernel))))))) (by decide +kernel)
theorem mw_inst_X10_rule : (Cond.instanceMethod yX10_rule : Cond) ∈ cw := cw_of (List.mem_append_right _ (List.mem_append_right _ (List.mem_append_right _ (List.mem_append_left _ (List.mem_of_getElem? (i := 178) (by decide +kernel)))))) (by decide +kernel)
theorem mw_inst_X10_ruled : (Cond.instanceMethod yX10_ruled : Cond) ∈ cw := cw_of (List.mem_append_right _ (List.mem_append_right _ (List.mem_append_right _ (List.mem_append_right _ (List.mem_append_right _ (List.mem_append_left _ (List.mem_of_getElem? (i := 66) (by decide +kernel)))))))) (by decide +kernel)
theorem mw_inst_X10_safe : (Cond.instanceMethod yX10_safe : Cond) ∈ cw := cw_of (List.mem_append_right _ (List.mem_append_right _ (List.mem_append_right _ (List.mem_append_right _ (List.mem_append_left _ (List.mem_of_getElem? (i := 223) (by decide +kernel))))))) (by decide +kernel)
theorem mw_inst_X10_seed : (Cond.instanceMethod yX10_seed : Cond) ∈ cw := cw_of (List.mem_append_right _ (List.mem_append_right _ (List.mem_append_right _ (List.mem_append_right _ (List.mem_append_left _ (List.mem_of_getElem? (i := 214) (by decide +kernel))))))) (by decide +kernel)
theorem mw_inst_X10_set : (Cond.instanceMethod yX10_set : Cond) ∈ cw := cw_of (List.mem_append_right _ (List.mem_append_right _ (List.mem_append_right _ (List.mem_append_right _ (List.mem_append_left _ (List.mem_of_getElem? (i := 134) (by decide +kernel))))))) (by decide +kernel)
theorem mw_inst_X10_step : (Cond.instanceMethod yX10_step : Cond) ∈ cw := cw_of (List.mem_append_right _ (List.mem_append_right _ (List.mem_append_right _ (List.mem_append_right _ (List.mem_append_left _ (List.mem_of_getElem? (i := 52) (by decide +kernel))))))) (by decide +kernel)
theorem mw_inst_X10_stuck : (Cond.instanceMethod yX10_stuck : Cond) ∈ cw := cw_of (List.mem_append_right _ (List.mem_append_right _ (List.mem_append_right _ (List.mem_append_right _ (List.mem_append_left _ (List.mem_of_getElem? (i := 229) (by decide +kernel))))))) (by decide +kernel)
theorem mw_inst_X10_town : (Cond.instanceMethod yX10_town : Cond) ∈ cw := cw_of (List.mem_append_right _ (List.mem_append_right _ (List.mem_append_left _ (List.mem_of_getElem? (i := 193) (by decide +kernel))))) (by decide +kernel)
theorem mw_inst_X10_undo : (Cond.instanceMethod yX10_undo : Cond) ∈ cw := cw_of (List.mem_append_right _ (List.mem_append_right _ (List.mem_append_right _ (List.mem_append_right _ (List.mem_append_left _ (List.mem_of_getElem? (i := 155) (by decide +kernel))))))) (by decide +kernel)
theorem mw_inst_X10_walker : (Cond.instanceMethod yX10_walker : Cond) ∈ cw := cw_of (List.mem_append_right _ (List.mem_append_right _ (List.mem_append_right _ (List.mem_append_right _ (List.mem_append_left _ (List.mem_of_getElem? (i := 24) (by decide +kernel))))))) (by decide +kernel)
theorem mw_inst_X10_waries : (Cond.instanceMethod yX10_waries : Cond) ∈ cw := cw_of (List.mem_append_right _ (List.mem_append_right _ (List.mem_append_right _ (List.mem_append_right _ (List.mem_append_right _ (List.mem_append_left _ (List.mem_of_getElem? (i := 62) (by decide +kernel)))))))) (by decide +kernel)
theorem mw_inst_X10_ways : (Cond.instanceMethod yX10_ways : Cond) ∈ cw := cw_of (List.mem_append_right _ (List.mem_append_right _ (List.mem_append_right _ (List.mem_append_right _ (List.mem_append_left _ (List.mem_of_getElem? (i := 32) (by decide +kernel))))))) (by decide +kernel)
theorem mw_inst_X11_ahead : (Cond.instanceMethod yX11_ahead : Cond) ∈ cw := cw_of (List.mem_append_right _ (List.mem_append_right _ (List.mem_append_right _ (List.mem_append_right _ (List.mem_append_right _ (List.mem_append_right _ (List.mem_append_right _ (List.mem_append_left _ (List.mem_of_getElem? (i := 67) (by decide +kernel)))))))))) (by decide +kernel)
theorem mw_inst_X11_back : (Cond.instanceMethod yX11_back : Cond) ∈ cw := cw_of (List.mem_append_right _ (List.mem_append_right _ (List.mem_append_right _ (List.mem_append_right _ (List.mem_append_right _ (List.mem_append_right _ (List.mem_append_right _ (List.mem_append_right _ (List.mem_of_getElem? (i := 12) (by decide +kernel)))))))))) (by decide +kernel)
theorem mw_inst_X11_bait : (Cond.instanceMethod yX11_bait : Cond) ∈ cw := cw_of (List.mem_append_right _ (List.mem_append_right _ (List.mem_append_right _ (List.mem_append_right _ (List.mem_append_right _ (List.mem_append_right _ (List.mem_append_right _ (List.mem_append_left _ (List.mem_of_getElem? (i := 57) (by decide +kernel)))))))))) (by decide +kernel)
theorem mw_inst_X11_best : (Cond.instanceMethod yX11_best : Cond) ∈ cw := cw_of (List.mem_append_right _ (List.mem_append_right _ (List.mem_append_right _ (List.mem_append_right _ (List.mem_append_right _ (List.mem_append_right _ (List.mem_append_right _ (List.mem_append_left _ (List.mem_of_getElem? (i := 119) (by decide +kernel)))))))))) (by decide +kernel)
theorem mw_inst_X11_calm : (Cond.instanceMethod yX11_calm : Cond) ∈ cw := cw_of (List.mem_append_right _ (List.mem_append_right _ (List.mem_append_right _ (List.mem_append_right _ (List.mem_append_right _ (List.mem_append_right _ (List.mem_append_right _ (List.mem_append_left _ (List.mem_of_getElem? (i := 62) (by decide +kernel)))))))))) (by decide +kernel)
theorem mw_inst_X11_count : (Cond.instanceMethod yX11_count : Cond) ∈ cw := cw_of (List.mem_append_right _ (List.mem_append_right _ (List.mem_append_right _ (List.mem_append_right _ (List.mem_append_right _ (List.mem_append_right _ (List.mem_append_right _ (List.mem_append_left _ (List.mem_of_getElem? (i := 239) (by decide +kernel)))))))))) (by decide +kernel)
theorem mw_inst_X11_cover : (Cond.instanceMethod yX11_cover : Cond) ∈ cw := cw_of (List.mem_append_right _ (List.mem_append_right _ (List.mem_append_right _ (List.mem_append_right _ (List.mem_append_right _ (List.mem_append_right _ (List.mem_append_right _ (List.mem_append_left _ (List.mem_of_getElem? (i := 140) (by decide +kernel)))))))))) (by decide +kernel)
theorem mw_inst_X11_end : (Cond.instanceMethod yX11_end : Cond) ∈ cw := cw_of (List.mem_append_right _ (List.mem_append_right _ (List.mem_append_right _ (List.mem_append_right _ (List.mem_append_right _ (List.mem_append_left _ (List.mem_of_getElem? (i := 229) (by decide +kernel)))))))) (by decide +kernel)
theorem mw_inst_X11_far : (Cond.instanceMethod yX11_far : Cond) ∈ cw := cw_of (List.mem_append_right _ (List.mem_append_right _ (List.mem_append_right _ (List.mem_append_right _ (List.mem_append_right _ (List.mem_append_right _ (List.mem_append_right _ (List.mem_append_left _ (List.mem_of_getElem? (i := 100) (by decide +kernel)))))))))) (by decide +kernel)
theorem mw_inst_X11_feed : (Cond.instanceMethod yX11_feed : Cond) ∈ cw := cw_of (List.mem_append_right _ (List.mem_append_right _ (List.mem_append_right _ (List.mem_append_right _ (List.mem_append_right _ (List.mem_append_left _ (List.mem_of_getElem? (i := 221) (by decide +kernel)))))))) (by decide +kernel)
theorem mw_inst_X11_first : (Cond.instanceMethod yX11_first : Cond) ∈ cw := cw_of (List.mem_append_right _ (List.mem_append_right _ (List.mem_append_right _ (List.mem_append_right _ (List.mem_append_right _ (List.mem_append_right _ (List.mem_append_right _ (List.mem_append_left _ (List.mem_of_getElem? (i := 93) (by decide +kernel)))))))))) (by decide +kernel)
theorem mw_inst_X11_force : (Cond.instanceMethod yX11_force : Cond) ∈ cw := cw_of (List.mem_append_right _ (List.mem_append_right _ (List.mem_append_right _ (List.mem_append_right _ (List.mem_append_right _ (List.mem_append_right _ (List.mem_append_left _ (List.mem_of_getElem? (i := 155) (by decide +kernel))))))))) (by decide +kernel)
theorem mw_inst_X11_had : (Cond.instanceMethod yX11_had : Cond) ∈ cw := cw_of (List.mem_append_right _ (List.mem_append_right _ (List.mem_append_right _ (List.mem_append_right _ (List.mem_append_right _ (List.mem_append_right _ (List.mem_append_right _ (List.mem_append_left _ (List.mem_of_getElem? (i := 89) (by decide +kernel)))))))))) (by decide +kernel)
theorem mw_inst_X11_hearts : (Cond.instanceMethod yX11_hearts : Cond) ∈ cw := cw_of (List.mem_append_right _ (List.mem_append_right _ (List.mem_append_right _ (List.mem_append_right _ (List.mem_append_right _ (List.mem_append_right _ (List.mem_append_right _ (List.mem_append_left _ (List.mem_of_getElem? (i := 210) (by decide +kernel)))))))))) (by decide +kernel)
theorem mw_inst_X11_image : (Cond.instanceMethod yX11_image : Cond) ∈ cw := cw_of (List.mem_append_right _ (List.mem_append_right _ (List.mem_append_right _ (List.mem_append_right _ (List.mem_append_right _ (List.mem_append_right _ (List.mem_append_right _ (List.mem_append_right _ (List.mem_of_getElem? (i := 7) (by decide +kernel)))))))))) (by decide +kernel)
theorem mw_inst_X11_kind : (Cond.instanceMethod yX11_kind : Cond) ∈ cw := cw_of (List.mem_append_right _ (List.mem_append_right _ (List.mem_append_right _ (List.mem_append_right _ (List.mem_append_right _ (List.mem_append_right _ (List.mem_append_right _ (List.mem_append_left _ (List.mem_of_getElem? (i := 136) (by decide +kernel)))))))))) (by decide +kernel)
theorem mw_inst_X11_look : (Cond.instanceMethod yX11_look : Cond) ∈ cw := cw_of (List.mem_append_right _ (List.mem_append_right _ (List.mem_append_right _ (List.mem_append_right _ (List.mem_append_right _ (List.mem_append_right _ (List.mem_append_right _ (List.mem_append_left _ (List.mem_of_getElem? (i := 202) (by decide +kernel)))))))))) (by decide +kernel)
theorem mw_inst_X11_lure : (Cond.instanceMethod yX11_lure : Cond) ∈ cw := cw_of (List.mem_append_right _ (List.mem_append_right _ (List.mem_append_right _ (List.mem_append_right _ (List.mem_append_right _ (List.mem_append_right _ (List.mem_append_left _ (List.mem_of_getElem? (i := 163) (by decide +kernel))))))))) (by decide +kernel)
theorem mw_inst_X11_move : (Cond.instanceMethod yX11_move : Cond) ∈ cw := cw_of (List.mem_append_right _ (List.mem_append_right _ (List.mem_append_right _ (List.mem_append_right _ (List.mem_append_right _ (List.mem_append_right _ (List.mem_append_right _ (List.mem_append_left _ (List.mem_of_getElem? (i := 53) (by decide +kernel)))))))))) (by decide +kernel)
theorem mw_inst_X11_nights : (Cond.instanceMethod yX11_nights : Cond) ∈ cw := cw_of (List.mem_append_right _ (List.mem_append_right _ (List.mem_append_right _ (List.mem_append_right _ (List.mem_append_right _ (List.mem_append_right _ (List.mem_append_right _ (List.mem_append_left _ (List.mem_of_getElem? (i := 226) (by decide +kernel)))))))))) (by decide +kernel)
theorem mw_inst_X11_note : (Cond.instanceMethod yX11_note : Cond) ∈ cw := cw_of (List.mem_append_right _ (List.mem_append_right _ (List.mem_append_right _ (List.mem_append_right _ (List.mem_append_right _ (List.mem_append_right _ (List.mem_append_right _ (List.mem_append_left _ (List.mem_of_getElem? (i := 181) (by decide +kernel)))))))))) (by decide +kernel)
theorem mw_inst_X11_pence : (Cond.instanceMethod yX11_pence : Cond) ∈ cw := cw_of (List.mem_append_right _ (List.mem_append_right _ (List.mem_append_right _ (List.mem_append_right _ (List.mem_append_right _ (List.mem_append_right _ (List.mem_append_right _ (List.mem_append_left _ (List.mem_of_getElem? (i := 176) (by decide +kernel)))))))))) (by decide +kernel)
theorem mw_inst_X11_rests : (Cond.instanceMethod yX11_rests : Cond) ∈ cw := cw_of (List.mem_append_right _ (List.mem_append_right _ (List.mem_append_right _ (List.mem_append_right _ (List.mem_append_right _ (List.mem_append_right _ (List.mem_append_right _ (List.mem_append_left _ (List.mem_of_getElem? (i := 151) (by decide +kernel)))))))))) (by decide +kernel)
theorem mw_inst_X11_ring : (Cond.instanceMethod yX11_ring : Cond) ∈ cw := cw_of (List.mem_append_right _ (List.mem_append_right _ (List.mem_append_right _ (List.mem_append_right _ (List.mem_append_right _ (List.mem_append_right _ (List.mem_append_right _ (List.mem_append_left _ (List.mem_of_getElem? (i := 168) (by decide +kernel)))))))))) (by decide +kernel)
theorem mw_inst_X11_rule : (Cond.instanceMethod yX11_rule : Cond) ∈ cw := cw_of (List.mem_append_right _ (List.mem_append_right _ (List.mem_append_right _ (List.mem_append_right _ (List.mem_append_right _ (List.mem_append_left _ (List.mem_of_getElem? (i := 233) (by decide +kernel)))))))) (by decide +kernel)
theorem mw_inst_X11_ruled : (Cond.instanceMethod yX11_ruled : Cond) ∈ cw := cw_of (List.mem_append_right _ (List.mem_append_right _ (List.mem_append_right _ (List.mem_append_right _ (List.mem_append_right _ (List.mem_append_right _ (List.mem_append_right _ (List.mem_append_left _ (List.mem_of_getElem? (i := 186) (by decide +kernel)))))))))) (by decide +kernel)
theorem mw_inst_X11_safe : (Cond.instanceMethod yX11_safe : Cond) ∈ cw := cw_of (List.mem_append_right _ (List.mem_append_right _ (List.mem_append_right _ (List.mem_append_right _ (List.mem_append_right _ (List.mem_append_right _ (List.mem_append_right _ (List.mem_append_left _ (List.mem_of_getElem? (i := 107) (by decide +kernel)))))))))) (by decide +kernel)
theorem mw_inst_X11_seed : (Cond.instanceMethod yX11_seed : Cond) ∈ cw := cw_of (List.mem_append_right _ (List.mem_append_right _ (List.mem_append_right _ (List.mem_append_right _ (List.mem_append_right _ (List.mem_append_right _ (List.mem_append_right _ (List.mem_append_left _ (List.mem_of_getElem? (i := 222) (by decide +kernel)))))))))) (by decide +kernel)
theorem mw_inst_X11_set : (Cond.instanceMethod yX11_set : Cond) ∈ cw := cw_of (List.mem_append_right _ (List.mem_append_right _ (List.mem_append_right _ (List.mem_append_right _ (List.mem_append_right _ (List.mem_append_right _ (List.mem_append_right _ (List.mem_append_left _ (List.mem_of_getElem? (i := 49) (by decide +kernel)))))))))) (by decide +kernel)
theorem mw_inst_X11_step : (Cond.instanceMethod yX11_step : Cond) ∈ cw := cw_of (List.mem_append_right _ (List.mem_append_right _ (List.mem_append_right _ (List.mem_append_right _ (List.mem_append_right _ (List.mem_append_right _ (List.mem_append_left _ (List.mem_of_getElem? (i := 211) (by decide +kernel))))))))) (by decide +kernel)
theorem mw_inst_X11_stuck : (Cond.instanceMethod yX11_stuck : Cond) ∈ cw := cw_of (List.mem_append_right _ (List.mem_append_right _ (List.mem_append_right _ (List.mem_append_right _ (List.mem_append_right _ (List.mem_append_right _ (List.mem_append_right _ (List.mem_append_left _ (List.mem_of_getElem? (i := 115) (by decide +kernel)))))))))) (by decide +kernel)
theorem mw_inst_X11_town : (Cond.instanceMethod yX11_town : Cond) ∈ cw := cw_of (List.mem_append_right _ (List.mem_append_right _ (List.mem_append_right _ (List.mem_append_right _ (List.mem_append_right _ (List.mem_append_right _ (List.mem_append_left _ (List.mem_of_getElem? (i := 147) (by decide +kernel))))))))) (by decide +kernel)
theorem mw_inst_X11_undo : (Cond.instanceMethod yX11_undo : Cond) ∈ cw := cw_of (List.mem_append_right _ (List.mem_append_right _ (List.mem_append_right _ (List.mem_append_right _ (List.mem_append_right _ (List.mem_append_right _ (List.mem_append_left _ (List.mem_of_getElem? (i := 207) (by decide +kernel))))))))) (by decide +kernel)
theorem mw_inst_X11_walker : (Cond.instanceMethod yX11_walker : Cond) ∈ cw := cw_of (List.mem_append_right _ (List.mem_append_right _ (List.mem_append_right _ (List.mem_append_right _ (List.mem_append_right _ (List.mem_append_right _ (List.mem_append_left _ (List.mem_of_getElem? (i := 179) (by decide +kernel))))))))) (by decide +kernel)
theorem mw_inst_X11_waries : (Cond.instanceMethod yX11_waries : Cond) ∈ cw := cw_of (List.mem_append_right _ (List.mem_append_right _ (List.mem_append_right _ (List.mem_append_right _ (List.mem_append_right _ (List.mem_append_right _ (List.mem_append_right _ (List.mem_append_left _ (List.mem_of_getElem? (i := 218) (by decide +kernel)))))))))) (by decide +kernel)
theorem mw_inst_X11_ways : (Cond.instanceMethod yX11_ways : Cond) ∈ cw := cw_of (List.mem_append_right _ (List.mem_append_right _ (List.mem_append_right _ (List.mem_append_right _ (List.mem_append_right _ (List.mem_append_right _ (List.mem_append_left _ (List.mem_of_getElem? (i := 199) (by decide +kernel))))))))) (by decide +kernel)
theorem mw_ml_L_101 : (Cond.methodLink RL 101 yX11_best : Cond) ∈ cw := cw_of (List.mem_append_right _ (List.mem_append_right _ (List.mem_append_right _ (List.mem_append_right _ (List.mem_append_right _ (List.mem_append_right _ (List.mem_append_right _ (List.mem_append_left _ (List.mem_of_getElem? (i := 118) (by decide +kernel)))))))))) (by decide +kernel)
theorem mw_ml_L_102 : (Cond.methodLink RL 102 yX10_kind : Cond) ∈ cw := cw_of (List.mem_append_right _ (List.mem_append_right _ (List.mem_append_right _ (List.mem_append_right _ (List.mem_append_right _ (List.mem_append_left _ (List.mem_of_getElem? (i := 8) (by decide +kernel)))))))) (by decide +kernel)
theorem mw_ml_L_105 : (Cond.methodLink RL 105 yX11_kind : Cond) ∈ cw := cw_of (List.mem_append_right _ (List.mem_append_right _ (List.mem_append_right _ (List.mem_append_right _ (List.mem_append_right _ (List.mem_append_right _ (List.mem_append_right _ (List.mem_append_left _ (List.mem_of_getElem? (i := 135) (by decide +kernel)))))))))) (by decide +kernel)
theorem mw_ml_L_106 : (Cond.methodLink RL 106 yX10_cover : Cond) ∈ cw := cw_of (List.mem_append_right _ (List.mem_append_right _ (List.mem_append_right _ (List.mem_append_right _ (List.mem_append_left _ (List.mem_of_getElem? (i := 232) (by decide +kernel))))))) (by decide +kernel)
theorem mw_ml_L_109 : (Cond.methodLink RL 109 yX11_cover : Cond) ∈ cw := cw_of (List.mem_append_right _ (List.mem_append_right _ (List.mem_append_right _ (List.mem_append_right _ (List.mem_append_right _ (List.mem_append_right _ (List.mem_append_right _ (List.mem_append_left _ (List.mem_of_getElem? (i := 139) (by decide +kernel)))))))))) (by decide +kernel)
theorem mw_ml_L_110 : (Cond.methodLink RL 110 yX10_hearts : Cond) ∈ cw := cw_of (List.mem_append_right _ (List.mem_append_right _ (List.mem_append_right _ (List.mem_append_right _ (List.mem_append_right _ (List.mem_append_left _ (List.mem_of_getElem? (i := 40) (by decide +kernel)))))))) (by decide +kernel)
theorem mw_ml_L_113 : (Cond.methodLink RL 113 yX11_hearts : Cond) ∈ cw := cw_of (List.mem_append_right _ (List.mem_append_right _ (List.mem_append_right _ (List.mem_append_right _ (List.mem_append_right _ (List.mem_append_right _ (List.mem_append_right _ (List.mem_append_left _ (List.mem_of_getElem? (i := 209) (by decide +kernel)))))))))) (by decide +kernel)
theorem mw_ml_L_114 : (Cond.methodLink RL 114 yX10_waries : Cond) ∈ cw := cw_of (List.mem_append_right _ (List.mem_append_right _ (List.mem_append_right _ (List.mem_append_right _ (List.mem_append_right _ (List.mem_append_left _ (List.mem_of_getElem? (i := 61) (by decide +kernel)))))))) (by decide +kernel)
theorem mw_ml_L_117 : (Cond.methodLink RL 117 yX11_waries : Cond) ∈ cw := cw_of (List.mem_append_right _ (List.mem_append_right _ (List.mem_append_right _ (List.mem_append_right _ (List.mem_append_right _ (List.mem_append_right _ (List.mem_append_right _ (List.mem_append_left _ (List.mem_of_getElem? (i := 217) (by decide +kernel)))))))))) (by decide +kernel)
theorem mw_ml_L_118 : (Cond.methodLink RL 118 yX10_rests : Cond) ∈ cw := cw_of (List.mem_append_right _ (List.mem_append_right _ (List.mem_append_right _ (List.mem_append_right _ (List.mem_append_right _ (List.mem_append_left _ (List.mem_of_getElem? (i := 12) (by decide +kernel)))))))) (by decide +kernel)
theorem mw_ml_L_122 : (Cond.methodLink RL 122 yX11_rests : Cond) ∈ cw := cw_of (List.mem_append_right _ (List.mem_append_right _ (List.mem_append_right _ (List.mem_append_right _ (List.mem_append_right _ (List.mem_append_right _ (List.mem_append_right _ (List.mem_append_left _ (List.mem_of_getElem? (i := 150) (by decide +kernel)))))))))) (by decide +kernel)
theorem mw_ml_L_123 : (Cond.methodLink RL 123 yX10_ring : Cond) ∈ cw := cw_of (List.mem_append_right _ (List.mem_append_right _ (List.mem_append_right _ (List.mem_append_right _ (List.mem_append_left _ (List.mem_of_getElem? (i := 183) (by decide +kernel))))))) (by decide +kernel)
theorem mw_ml_L_126 : (Cond.methodLink RL 126 yX11_ring : Cond) ∈ cw := cw_of (List.mem_append_right _ (List.mem_append_right _ (List.mem_append_right _ (List.mem_append_right _ (List.mem_append_right _ (List.mem_append_right _ (List.mem_append_right _ (List.mem_append_left _ (List.mem_of_getElem? (i := 167) (by decide +kernel)))))))))) (by decide +kernel)
theorem mw_ml_L_127 : (Cond.methodLink RL 127 yX10_pence : Cond) ∈ cw := cw_of (List.mem_append_right _ (List.mem_append_right _ (List.mem_append_right _ (List.mem_append_right _ (List.mem_append_right _ (List.mem_append_left _ (List.mem_of_getElem? (i := 28) (by decide +kernel)))))))) (by decide +kernel)
theorem mw_ml_L_13 : (Cond.methodLink RL 13 yX10_feed : Cond) ∈ cw := cw_of (List.mem_append_right _ (List.mem_append_right _ (List.mem_append_left _ (List.mem_of_getElem? (i := 180) (by decide +kernel))))) (by decide +kernel)
theorem mw_ml_L_130 : (Cond.methodLink RL 130 yX11_pence : Cond) ∈ cw := cw_of (List.mem_append_right _ (List.mem_append_right _ (List.mem_append_right _ (List.mem_append_right _ (List.mem_append_right _ (List.mem_append_right _ (List.mem_append_right _ (List.mem_append_left _ (List.mem_of_getElem? (i := 175) (by decide +kernel)))))))))) (by decide +kernel)
theorem mw_ml_L_131 : (Cond.methodLink RL 131 yX10_note : Cond) ∈ cw := cw_of (List.mem_append_right _ (List.mem_append_right _ (List.mem_append_right _ (List.mem_append_right _ (List.mem_append_right _ (List.mem_append_left _ (List.mem_of_getElem? (i := 32) (by decide +kernel)))))))) (by decide +kernel)
theorem mw_ml_L_134 : (Cond.methodLink RL 134 yX11_note : Cond) ∈ cw := cw_of (List.mem_append_right _ (List.mem_append_right _ (List.mem_append_right _ (List.mem_append_right _ (List.mem_append_right _ (List.mem_append_right _ (List.mem_append_right _ (List.mem_append_left _ (List.mem_of_getElem? (i := 180) (by decide +kernel)))))))))) (by decide +kernel)
theorem mw_ml_L_135 : (Cond.methodLink RL 135 yX10_ruled : Cond) ∈ cw := cw_of (List.mem_append_right _ (List.mem_append_right _ (List.mem_append_right _ (List.mem_append_right _ (List.mem_append_right _ (List.mem_append_left _ (List.mem_of_getElem? (i := 65) (by decide +kernel)))))))) (by decide +kernel)
theorem mw_ml_L_138 : (Cond.methodLink RL 138 yX11_ruled : Cond) ∈ cw := cw_of (List.mem_append_right _ (List.mem_append_right _ (List.mem_append_right _ (List.mem_append_right _ (List.mem_append_right _ (List.mem_append_right _ (List.mem_append_right _ (List.mem_append_left _ (List.mem_of_getElem? (i := 185) (by decide +kernel)))))))))) (by decide +kernel)
theorem mw_ml_L_139 : (Cond.methodLink RL 139 yX10_look : Cond) ∈ cw := cw_of (List.mem_append_right _ (List.mem_append_right _ (List.mem_append_right _ (List.mem_append_right _ (List.mem_append_right _ (List.mem_append_left _ (List.mem_of_getElem? (i := 69) (by decide +kernel)))))))) (by decide +kernel)
theorem mw_ml_L_142 : (Cond.methodLink RL 142 yX11_look : Cond) ∈ cw := cw_of (List.mem_append_right _ (List.mem_append_right _ (List.mem_append_right _ (List.mem_append_right _ (List.mem_append_right _ (List.mem_append_right _ (List.mem_append_right _ (List.mem_append_left _ (List.mem_of_getElem? (i := 201) (by decide +kernel)))))))))) (by decide +kernel)
theorem mw_ml_L_143 : (Cond.methodLink RL 143 yX10_seed : Cond) ∈ cw := cw_of (List.mem_append_right _ (List.mem_append_right _ (List.mem_append_right _ (List.mem_append_right _ (List.mem_append_left _ (List.mem_of_getElem? (i := 213) (by decide +kernel))))))) (by decide +kernel)
theorem mw_ml_L_146 : (Cond.methodLink RL 146 yX11_seed : Cond) ∈ cw := cw_of (List.mem_append_right _ (List.mem_append_right _ (List.mem_append_right _ (List.mem_append_right _ (List.mem_append_right _ (List.mem_append_right _ (List.mem_append_right _ (List.mem_append_left _ (List.mem_of_getElem? (i := 221) (by decide +kernel)))))))))) (by decide +kernel)
theorem mw_ml_L_147 : (Cond.methodLink RL 147 yX10_nights : Cond) ∈ cw := cw_of (List.mem_append_right _ (List.mem_append_right _ (List.mem_append_right _ (List.mem_append_right _ (List.mem_append_left _ (List.mem_of_getElem? (i := 191) (by decide +kernel))))))) (by decide +kernel)
theorem mw_ml_L_150 : (Cond.methodLink RL 150 yX11_nights : Cond) ∈ cw := cw_of (List.mem_append_right _ (List.mem_append_right _ (List.mem_append_right _ (List.mem_append_right _ (List.mem_append_right _ (List.mem_append_right _ (List.mem_append_right _ (List.mem_append_left _ (List.mem_of_getElem? (i := 225) (by decide +kernel)))))))))) (by decide +kernel)
theorem mw_ml_L_151 : (Cond.methodLink RL 151 yX10_count : Cond) ∈ cw := cw_of (List.mem_append_right _ (List.mem_append_right _ (List.mem_append_right _ (List.mem_append_right _ (List.mem_append_left _ (List.mem_of_getElem? (i := 39) (by decide +kernel))))))) (by decide +kernel)
theorem mw_ml_L_154 : (Cond.methodLink RL 154 yX11_count : Cond) ∈ cw := cw_of (List.mem_append_right _ (List.mem_append_right _ (List.mem_append_right _ (List.mem_append_right _ (List.mem_append_right _ (List.mem_append_right _ (List.mem_append_right _ (List.mem_append_left _ (List.mem_of_getElem? (i := 238) (by decide +kernel)))))))))) (by decide +kernel)
theorem mw_ml_L_155 : (Cond.methodLink RL 155 yX10_image : Cond) ∈ cw := cw_of (List.mem_append_right _ (List.mem_append_right _ (List.mem_append_right _ (List.mem_append_right _ (List.mem_append_right _ (List.mem_append_left _ (List.mem_of_getElem? (i := 82) (by decide +kernel)))))))) (by decide +kernel)
theorem mw_ml_L_158 : (Cond.methodLink RL 158 yX11_image : Cond) ∈ cw := cw_of (List.mem_append_right _ (List.mem_append_right _ (List.mem_append_right _ (List.mem_append_right _ (List.mem_append_right _ (List.mem_append_right _ (List.mem_append_right _ (List.mem_append_right _ (List.mem_of_getElem? (i := 6) (by decide +kernel)))))))))) (by decide +kernel)
theorem mw_ml_L_159 : (Cond.methodLink RL 159 yX10_back : Cond) ∈ cw := cw_of (List.mem_append_right _ (List.mem_append_right _ (List.mem_append_right _ (List.mem_append_right _ (List.mem_append_right _ (List.mem_append_left _ (List.mem_of_getElem? (i := 97) (by decide +kernel)))))))) (by decide +kernel)
theorem mw_ml_L_162 : (Cond.methodLink RL 162 yX11_back : Cond) ∈ cw := cw_of (List.mem_append_right _ (List.mem_append_right _ (List.mem_append_right _ (List.mem_append_right _ (List.mem_append_right _ (List.mem_append_right _ (List.mem_append_right _ (List.mem_append_right _ (List.mem_of_getElem? (i := 11) (by decide +kernel)))))))))) (by decide +kernel)
theorem mw_ml_L_17 : (Cond.methodLink RL 17 yX11_feed : Cond) ∈ cw := cw_of (List.mem_append_right _ (List.mem_append_right _ (List.mem_append_right _ (List.mem_append_right _ (List.mem_append_right _ (List.mem_append_left _ (List.mem_of_getElem? (i := 220) (by decide +kernel)))))))) (by decide +kernel)
theorem mw_ml_L_18 : (Cond.methodLink RL 18 yX10_end : Cond) ∈ cw := cw_of (List.mem_append_right _ (List.mem_append_right _ (List.mem_append_left _ (List.mem_of_getElem? (i := 188) (by decide +kernel))))) (by decide +kernel)
theorem mw_ml_L_22 : (Cond.methodLink RL 22 yX11_end : Cond) ∈ cw := cw_of (List.mem_append_right _ (List.mem_append_right _ (List.mem_append_right _ (List.mem_append_right _ (List.mem_append_right _ (List.mem_append_left _ (List.mem_of_getElem? (i := 228) (by decide +kernel)))))))) (by decide +kernel)
theorem mw_ml_L_23 : (Cond.methodLink RL 23 yX10_town : Cond) ∈ cw := cw_of (List.mem_append_right _ (List.mem_append_right _ (List.mem_append_left _ (List.mem_of_getElem? (i := 192) (by decide +kernel))))) (by decide +kernel)
theorem mw_ml_L_27 : (Cond.methodLink RL 27 yX11_town : Cond) ∈ cw := cw_of (List.mem_append_right _ (List.mem_append_right _ (List.mem_append_right _ (List.mem_append_right _ (List.mem_append_right _ (List.mem_append_right _ (List.mem_append_left _ (List.mem_of_getElem? (i := 146) (by decide +kernel))))))))) (by decide +kernel)
theorem mw_ml_L_28 : (Cond.methodLink RL 28 yX10_rule : Cond) ∈ cw := cw_of (List.mem_append_right _ (List.mem_append_right _ (List.mem_append_right _ (List.mem_append_left _ (List.mem_of_getElem? (i := 177) (by decide +kernel)))))) (by decide +kernel)
theorem mw_ml_L_31 : (Cond.methodLink RL 31 yX11_rule : Cond) ∈ cw := cw_of (List.mem_append_right _ (List.mem_append_right _ (List.mem_append_right _ (List.mem_append_right _ (List.mem_append_right _ (List.mem_append_left _ (List.mem_of_getElem? (i := 232) (by decide +kernel)))))))) (by decide +kernel)
theorem mw_ml_L_32 : (Cond.methodLink RL 32 yX10_force : Cond) ∈ cw := cw_of (List.mem_append_right _ (List.mem_append_right _ (List.mem_append_right _ (List.mem_append_right _ (List.mem_append_left _ (List.mem_of_getElem? (i := 7) (by decide +kernel))))))) (by decide +kernel)
theorem mw_ml_L_35 : (Cond.methodLink RL 35 yX11_force : Cond) ∈ cw := cw_of (List.mem_append_right _ (List.mem_append_right _ (List.mem_append_right _ (List.mem_append_right _ (List.mem_append_right _ (List.mem_append_right _ (List.mem_append_left _ (List.mem_of_getElem? (i := 154) (by decide +kernel))))))))) (by decide +kernel)
theorem mw_ml_L_36 : (Cond.methodLink RL 36 yX10_lure : Cond) ∈ cw := cw_of (List.mem_append_right _ (List.mem_append_right _ (List.mem_append_right _ (List.mem_append_right _ (List.mem_append_left _ (List.mem_of_getElem? (i := 11) (by decide +kernel))))))) (by decide +kernel)
theorem mw_ml_L_40 : (Cond.methodLink RL 40 yX11_lure : Cond) ∈ cw := cw_of (List.mem_append_right _ (List.mem_append_right _ (List.mem_append_right _ (List.mem_append_right _ (List.mem_append_right _ (List.mem_append_right _ (List.mem_append_left _ (List.mem_of_getElem? (i := 162) (by decide +kernel))))))))) (by decide +kernel)
theorem mw_ml_L_41 : (Cond.methodLink RL 41 yX10_walker : Cond) ∈ cw := cw_of (List.mem_append_right _ (List.mem_append_right _ (List.mem_append_right _ (List.mem_append_right _ (List.mem_append_left _ (List.mem_of_getElem? (i := 23) (by decide +kernel))))))) (by decide +kernel)
theorem mw_ml_L_44 : (Cond.methodLink RL 44 yX11_walker : Cond) ∈ cw := cw_of (List.mem_append_right _ (List.mem_append_right _ (List.mem_append_right _ (List.mem_append_right _ (List.mem_append_right _ (List.mem_append_right _ (List.mem_append_left _ (List.mem_of_getElem? (i := 178) (by decide +kernel))))))))) (by decide +kernel)
theorem mw_ml_L_45 : (Cond.methodLink RL 45 yX10_ways : Cond) ∈ cw := cw_of (List.mem_append_right _ (List.mem_append_right _ (List.mem_append_right _ (List.mem_append_right _ (List.mem_append_left _ (List.mem_of_getElem? (i := 31) (by decide +kernel))))))) (by decide +kernel)
theorem mw_ml_L_48 : (Cond.methodLink RL 48 yX11_ways : Cond) ∈ cw := cw_of (List.mem_append_right _ (List.mem_append_right _ (List.mem_append_right _ (List.mem_append_right _ (List.mem_append_right _ (List.mem_append_right _ (List.mem_append_left _ (List.mem_of_getElem? (i := 198) (by decide +kernel))))))))) (by decide +kernel)
theorem mw_ml_L_49 : (Cond.methodLink RL 49 yX10_step : Cond) ∈ cw := cw_of (List.mem_append_right _ (List.mem_append_right _ (List.mem_append_right _ (List.mem_append_right _ (List.mem_append_left _ (List.mem_of_getElem? (i := 51) (by decide +kernel))))))) (by decide +kernel)
theorem mw_ml_L_52 : (Cond.methodLink RL 52 yX11_step : Cond) ∈ cw := cw_of (List.mem_append_right _ (List.mem_append_right _ (List.mem_append_right _ (List.mem_append_right _ (List.mem_append_right _ (List.mem_append_right _ (List.mem_append_left _ (List.mem_of_getElem? (i := 210) (by decide +kernel))))))))) (by decide +kernel)
theorem mw_ml_L_53 : (Cond.methodLink RL 53 yX10_set : Cond) ∈ cw := cw_of (List.mem_append_right _ (List.mem_append_right _ (List.mem_append_right _ (List.mem_append_right _ (List.mem_append_left _ (List.mem_of_getElem? (i := 133) (by decide +kernel))))))) (by decide +kernel)
theorem mw_ml_L_56 : (Cond.methodLink RL 56 yX11_set : Cond) ∈ cw := cw_of (List.mem_append_right _ (List.mem_append_right _ (List.mem_append_right _ (List.mem_append_right _ (List.mem_append_right _ (List.mem_append_right _ (List.mem_append_right _ (List.mem_append_left _ (List.mem_of_getElem? (i := 48) (by decide +kernel)))))))))) (by decide +kernel)
theorem mw_ml_L_57 : (Cond.methodLink RL 57 yX10_move : Cond) ∈ cw := cw_of (List.mem_append_right _ (List.mem_append_right _ (List.mem_append_right _ (List.mem_append_right _ (List.mem_append_left _ (List.mem_of_getElem? (i := 138) (by decide +kernel))))))) (by decide +kernel)
theorem mw_ml_L_60 : (Cond.methodLink RL 60 yX11_move : Cond) ∈ cw := cw_of (List.mem_append_right _ (List.mem_append_right _ (List.mem_append_right _ (List.mem_append_right _ (List.mem_append_right _ (List.mem_append_right _ (List.mem_append_right _ (List.mem_append_left _ (List.mem_of_getElem? (i := 52) (by decide +kernel)))))))))) (by decide +kernel)
theorem mw_ml_L_61 : (Cond.methodLink RL 61 yX10_bait : Cond) ∈ cw := cw_of (List.mem_append_right _ (List.mem_append_right _ (List.mem_append_right _ (List.mem_append_right _ (List.mem_append_left _ (List.mem_of_getElem? (i := 146) (by decide +kernel))))))) (by decide +kernel)
theorem mw_ml_L_64 : (Cond.methodLink RL 64 yX11_bait : Cond) ∈ cw := cw_of (List.mem_append_right _ (List.mem_append_right _ (List.mem_append_right _ (List.mem_append_right _ (List.mem_append_right _ (List.mem_append_right _ (List.mem_append_right _ (List.mem_append_left _ (List.mem_of_getElem? (i := 56) (by decide +kernel)))))))))) (by decide +kernel)
theorem mw_ml_L_65 : (Cond.methodLink RL 65 yX10_calm : Cond) ∈ cw := cw_of (List.mem_append_right _ (List.mem_append_right _ (List.mem_append_right _ (List.mem_append_right _ (List.mem_append_left _ (List.mem_of_getElem? (i := 150) (by decide +kernel))))))) (by decide +kernel)
theorem mw_ml_L_68 : (Cond.methodLink RL 68 yX11_calm : Cond) ∈ cw := cw_of (List.mem_append_right _ (List.mem_append_right _ (List.mem_append_right _ (List.mem_append_right _ (List.mem_append_right _ (List.mem_append_right _ (List.mem_append_right _ (List.mem_append_left _ (List.mem_of_getElem? (i := 61) (by decide +kernel)))))))))) (by decide +kernel)
theorem mw_ml_L_69 : (Cond.methodLink RL 69 yX10_undo : Cond) ∈ cw := cw_of (List.mem_append_right _ (List.mem_append_right _ (List.mem_append_right _ (List.mem_append_right _ (List.mem_append_left _ (List.mem_of_getElem? (i := 154) (by decide +kernel))))))) (by decide +kernel)
theorem mw_ml_L_72 : (Cond.methodLink RL 72 yX11_undo : Cond) ∈ cw := cw_of (List.mem_append_right _ (List.mem_append_right _ (List.mem_append_right _ (List.mem_append_right _ (List.mem_append_right _ (List.mem_append_right _ (List.mem_append_left _ (List.mem_of_getElem? (i := 206) (by decide +kernel))))))))) (by decide +kernel)
theorem mw_ml_L_73 : (Cond.methodLink RL 73 yX10_ahead : Cond) ∈ cw := cw_of (List.mem_append_right _ (List.mem_append_right _ (List.mem_append_right _ (List.mem_append_right _ (List.mem_append_left _ (List.mem_of_getElem? (i := 162) (by decide +kernel))))))) (by decide +kernel)
theorem mw_ml_L_77 : (Cond.methodLink RL 77 yX11_ahead : Cond) ∈ cw := cw_of (List.mem_append_right _ (List.mem_append_right _ (List.mem_append_right _ (List.mem_append_right _ (List.mem_append_right _ (List.mem_append_right _ (List.mem_append_right _ (List.mem_append_left _ (List.mem_of_getElem? (i := 66) (by decide +kernel)))))))))) (by decide +kernel)
theorem mw_ml_L_78 : (Cond.methodLink RL 78 yX10_had : Cond) ∈ cw := cw_of (List.mem_append_right _ (List.mem_append_right _ (List.mem_append_right _ (List.mem_append_right _ (List.mem_append_left _ (List.mem_of_getElem? (i := 171) (by decide +kernel))))))) (by decide +kernel)
theorem mw_ml_L_81 : (Cond.methodLink RL 81 yX11_had : Cond) ∈ cw := cw_of (List.mem_append_right _ (List.mem_append_right _ (List.mem_append_right _ (List.mem_append_right _ (List.mem_append_right _ (List.mem_append_right _ (List.mem_append_right _ (List.mem_append_left _ (List.mem_of_getElem? (i := 88) (by decide +kernel)))))))))) (by decide +kernel)
theorem mw_ml_L_82 : (Cond.methodLink RL 82 yX10_first : Cond) ∈ cw := cw_of (List.mem_append_right _ (List.mem_append_right _ (List.mem_append_right _ (List.mem_append_right _ (List.mem_append_left _ (List.mem_of_getElem? (i := 179) (by decide +kernel))))))) (by decide +kernel)
theorem mw_ml_L_85 : (Cond.methodLink RL 85 yX11_first : Cond) ∈ cw := cw_of (List.mem_append_right _ (List.mem_append_right _ (List.mem_append_right _ (List.mem_append_right _ (List.mem_append_right _ (List.mem_append_right _ (List.mem_append_right _ (List.mem_append_left _ (List.mem_of_getElem? (i := 92) (by decide +kernel)))))))))) (by decide +kernel)
theorem mw_ml_L_86 : (Cond.methodLink RL 86 yX10_far : Cond) ∈ cw := cw_of (List.mem_append_right _ (List.mem_append_right _ (List.mem_append_right _ (List.mem_append_right _ (List.mem_append_left _ (List.mem_of_getElem? (i := 217) (by decide +kernel))))))) (by decide +kernel)
theorem mw_ml_L_89 : (Cond.methodLink RL 89 yX11_far : Cond) ∈ cw := cw_of (List.mem_append_right _ (List.mem_append_right _ (List.mem_append_right _ (List.mem_append_right _ (List.mem_append_right _ (List.mem_append_right _ (List.mem_append_right _ (List.mem_append_left _ (List.mem_of_getElem? (i := 99) (by decide +kernel)))))))))) (by decide +kernel)
theorem mw_ml_L_90 : (Cond.methodLink RL 90 yX10_safe : Cond) ∈ cw := cw_of (List.mem_append_right _ (List.mem_append_right _ (List.mem_append_right _ (List.mem_append_right _ (List.mem_append_left _ (List.mem_of_getElem? (i := 222) (by decide +kernel))))))) (by decide +kernel)
theorem mw_ml_L_93 : (Cond.methodLink RL 93 yX11_safe : Cond) ∈ cw := cw_of (List.mem_append_right _ (List.mem_append_right _ (List.mem_append_right _ (List.mem_append_right _ (List.mem_append_right _ (List.mem_append_right _ (List.mem_append_right _ (List.mem_append_left _ (List.mem_of_getElem? (i := 106) (by decide +kernel)))))))))) (by decide +kernel)
theorem mw_ml_L_94 : (Cond.methodLink RL 94 yX10_stuck : Cond) ∈ cw := cw_of (List.mem_append_right _ (List.mem_append_right _ (List.mem_append_right _ (List.mem_append_right _ (List.mem_append_left _ (List.mem_of_getElem? (i := 228) (by decide +kernel))))))) (by decide +kernel)
theorem mw_ml_L_97 : (Cond.methodLink RL 97 yX11_stuck : Cond) ∈ cw := cw_of (List.mem_append_right _ (List.mem_append_right _ (List.mem_append_right _ (List.mem_append_right _ (List.mem_append_right _ (List.mem_append_right _ (List.mem_append_right _ (List.mem_append_left _ (List.mem_of_getElem? (i := 114) (by decide +kernel)))))))))) (by decide +kernel)
theorem mw_ml_L_98 : (Cond.methodLink RL 98 yX10_best : Cond) ∈ cw := cw_of (List.mem_append_right _ (List.mem_append_right _ (List.mem_append_right _ (List.mem_append_right _ (List.mem_append_right _ (List.mem_append_left _ (List.mem_of_getElem? (i := 0) (by decide +kernel)))))))) (by decide +kernel)
theorem mw_sel_X10_ahead : (Cond.selects RX10 yX10_ahead yX10_ahead : Cond) ∈ cw := cw_of (List.mem_append_right _ (List.mem_append_right _ (List.mem_append_right _ (List.mem_append_right _ (List.mem_append_left _ (List.mem_of_getElem? (i := 164) (by decide +kernel))))))) (by decide +kernel)
theorem mw_sel_X10_back : (Cond.selects RX10 yX10_back yX10_back : Cond) ∈ cw := cw_of (List.mem_append_right _ (List.mem_append_right _ (List.mem_append_right _ (List.mem_append_right _ (List.mem_append_right _ (List.mem_append_left _ (List.mem_of_getElem? (i := 99) (by decide +kernel)))))))) (by decide +kernel)
theorem mw_sel_X10_bait : (Cond.selects RX10 yX10_bait yX10_bait : Cond) ∈ cw := cw_of (List.mem_append_right _ (List.mem_append_right _ (List.mem_append_right _ (List.mem_append_right _ (List.mem_append_left _ (List.mem_of_getElem? (i := 148) (by decide +kernel))))))) (by decide +kernel)
theorem mw_sel_X10_best : (Cond.selects RX10 yX10_best yX10_best : Cond) ∈ cw := cw_of (List.mem_append_right _ (List.mem_append_right _ (List.mem_append_right _ (List.mem_append_right _ (List.mem_append_right _ (List.mem_append_left _ (List.mem_of_getElem? (i := 2) (by decide +kernel)))))))) (by decide +kernel)
theorem mw_sel_X10_calm : (Cond.selects RX10 yX10_calm yX10_calm : Cond) ∈ cw := cw_of (List.mem_append_right _ (List.mem_append_right _ (List.mem_append_right _ (List.mem_append_right _ (List.mem_append_left _ (List.mem_of_getElem? (i := 152) (by decide +kernel))))))) (by decide +kernel)
theorem mw_sel_X10_count : (Cond.selects RX10 yX10_count yX10_count : Cond) ∈ cw := cw_of (List.mem_append_right _ (List.mem_append_right _ (List.mem_append_right _ (List.mem_append_right _ (List.mem_append_left _ (List.mem_of_getElem? (i := 41) (by decide +kernel))))))) (by decide +kernel)
theorem mw_sel_X10_cover : (Cond.selects RX10 yX10_cover yX10_cover : Cond) ∈ cw := cw_of (List.mem_append_right _ (List.mem_append_right _ (List.mem_append_right _ (List.mem_append_right _ (List.mem_append_left _ (List.mem_of_getElem? (i := 234) (by decide +kernel))))))) (by decide +kernel)
theorem mw_sel_X10_end : (Cond.selects RX10 yX10_end yX10_end : Cond) ∈ cw := cw_of (List.mem_append_right _ (List.mem_append_right _ (List.mem_append_left _ (List.mem_of_getElem? (i := 190) (by decide +kernel))))) (by decide +kernel)
theorem mw_sel_X10_far : (Cond.selects RX10 yX10_far yX10_far : Cond) ∈ cw := cw_of (List.mem_append_right _ (List.mem_append_right _ (List.mem_append_right _ (List.mem_append_right _ (List.mem_append_left _ (List.mem_of_getElem? (i := 219) (by decide +kernel))))))) (by decide +kernel)
theorem mw_sel_X10_feed : (Cond.selects RX10 yX10_feed yX10_feed : Cond) ∈ cw := cw_of (List.mem_append_right _ (List.mem_append_right _ (List.mem_append_left _ (List.mem_of_getElem? (i := 182) (by decide +kernel))))) (by decide +kernel)
theorem mw_sel_X10_first : (Cond.selects RX10 yX10_first yX10_first : Cond) ∈ cw := cw_of (List.mem_append_right _ (List.mem_append_right _ (List.mem_append_right _ (List.mem_append_right _ (List.mem_append_left _ (List.mem_of_getElem? (i := 181) (by decide +kernel))))))) (by decide +kernel)
theorem mw_sel_X10_force : (Cond.selects RX10 yX10_force yX10_force : Cond) ∈ cw := cw_of (List.mem_append_right _ (List.mem_append_right _ (List.mem_append_right _ (List.mem_append_right _ (List.mem_append_left _ (List.mem_of_getElem? (i := 9) (by decide +kernel))))))) (by decide +kernel)
theorem mw_sel_X10_had : (Cond.selects RX10 yX10_had yX10_had : Cond) ∈ cw := cw_of (List.mem_append_right _ (List.mem_append_right _ (List.mem_append_right _ (List.mem_append_right _ (List.mem_append_left _ (List.mem_of_getElem? (i := 173) (by decide +kernel))))))) (by decide +kernel)
theorem mw_sel_X10_hearts : (Cond.selects RX10 yX10_hearts yX10_hearts : Cond) ∈ cw := cw_of (List.mem_append_right _ (List.mem_append_right _ (List.mem_append_right _ (List.mem_append_right _ (List.mem_append_right _ (List.mem_append_left _ (List.mem_of_getElem? (i := 42) (by decide +kernel)))))))) (by decide +kernel)
theorem mw_sel_X10_image : (Cond.selects RX10 yX10_image yX10_image : Cond) ∈ cw := cw_of (List.mem_append_right _ (List.mem_append_right _ (List.mem_append_right _ (List.mem_append_right _ (List.mem_append_right _ (List.mem_append_left _ (List.mem_of_getElem? (i := 84) (by decide +kernel)))))))) (by decide +kernel)
theorem mw_sel_X10_kind : (Cond.selects RX10 yX10_kind yX10_kind : Cond) ∈ cw := cw_of (List.mem_append_right _ (List.mem_append_right _ (List.mem_append_right _ (List.mem_append_right _ (List.mem_append_right _ (List.mem_append_left _ (List.mem_of_getElem? (i := 10) (by decide +kernel)))))))) (by decide +kernel)
theorem mw_sel_X10_look : (Cond.selects RX10 yX10_look yX10_look : Cond) ∈ cw := cw_of (List.mem_append_right _ (List.mem_append_right _ (List.mem_append_right _ (List.mem_append_right _ (List.mem_append_right _ (List.mem_append_left _ (List.mem_of_getElem? (i := 71) (by decide +kernel)))))))) (by decide +kernel)
theorem mw_sel_X10_lure : (Cond.selects RX10 yX10_lure yX10_lure : Cond) ∈ cw := cw_of (List.mem_append_right _ (List.mem_append_right _ (List.mem_append_right _ (List.mem_append_right _ (List.mem_append_left _ (List.mem_of_getElem? (i := 13) (by decide +kernel))))))) (by decide +kernel)
theorem mw_sel_X10_move : (Cond.selects RX10 yX10_move yX10_move : Cond) ∈ cw := cw_of (List.mem_append_right _ (List.mem_append_right _ (List.mem_append_right _ (List.mem_append_right _ (List.mem_append_left _ (List.mem_of_getElem? (i := 140) (by decide +kernel))))))) (by decide +kernel)
theorem mw_sel_X10_nights : (Cond.selects RX10 yX10_nights yX10_nights : Cond) ∈ cw := cw_of (List.mem_append_right _ (List.mem_append_right _ (List.mem_append_right _ (List.mem_append_right _ (List.mem_append_left _ (List.mem_of_getElem? (i := 193) (by decide +kernel))))))) (by decide +kernel)
theorem mw_sel_X10_note : (Cond.selects RX10 yX10_note yX10_note : Cond) ∈ cw := cw_of (List.mem_append_right _ (List.mem_append_right _ (List.mem_append_right _ (List.mem_append_right _ (List.mem_append_right _ (List.mem_append_left _ (List.mem_of_getElem? (i := 34) (by decide +kernel)))))))) (by decide +kernel)
theorem mw_sel_X10_pence : (Cond.selects RX10 yX10_pence yX10_pence : Cond) ∈ cw := cw_of (List.mem_append_right _ (List.mem_append_right _ (List.mem_append_right _ (List.mem_append_right _ (List.mem_append_right _ (List.mem_append_left _ (List.mem_of_getElem? (i := 30) (by decide +kernel)))))))) (by decide +kernel)
theorem mw_sel_X10_rests : (Cond.selects RX10 yX10_rests yX10_rests : Cond) ∈ cw := cw_of (List.mem_append_right _ (List.mem_append_right _ (List.mem_append_right _ (List.mem_append_right _ (List.mem_append_right _ (List.mem_append_left _ (List.mem_of_getElem? (i := 14) (by decide +kernel)))))))) (by decide +kernel)
theorem mw_sel_X10_ring : (Cond.selects RX10 yX10_ring yX10_ring : Cond) ∈ cw := cw_of (List.mem_append_right _ (List.mem_append_right _ (List.mem_append_right _ (List.mem_append_right _ (List.mem_append_left _ (List.mem_of_getElem? (i := 185) (by decide +kernel))))))) (by decide +kernel)
theorem mw_sel_X10_rule : (Cond.selects RX10 yX10_rule yX10_rule : Cond) ∈ cw := cw_of (List.mem_append_right _ (List.mem_append_right _ (List.mem_append_right _ (List.mem_append_left _ (List.mem_of_getElem? (i := 179) (by decide +kernel)))))) (by decide +kernel)
theorem mw_sel_X10_ruled : (Cond.selects RX10 yX10_ruled yX10_ruled : Cond) ∈ cw := cw_of (List.mem_append_right _ (List.mem_append_right _ (List.mem_append_right _ (List.mem_append_right _ (List.mem_append_right _ (List.mem_append_left _ (List.mem_of_getElem? (i := 67) (by decide +kernel)))))))) (by decide +kernel)
theorem mw_sel_X10_safe : (Cond.selects RX10 yX10_safe yX10_safe : Cond) ∈ cw := cw_of (List.mem_append_right _ (List.mem_append_right _ (List.mem_append_right _ (List.mem_append_right _ (List.mem_append_left _ (List.mem_of_getElem? (i := 224) (by decide +kernel))))))) (by decide +kernel)
theorem mw_sel_X10_seed : (Cond.selects RX10 yX10_seed yX10_seed : Cond) ∈ cw := cw_of (List.mem_append_right _ (List.mem_append_right _ (List.mem_append_right _ (List.mem_append_right _ (List.mem_append_left _ (List.mem_of_getElem? (i := 215) (by decide +kernel))))))) (by decide +kernel)
theorem mw_sel_X10_set : (Cond.selects RX10 yX10_set yX10_set : Cond) ∈ cw := cw_of (List.mem_append_right _ (List.mem_append_right _ (List.mem_append_right _ (List.mem_append_right _ (List.mem_append_left _ (List.mem_of_getElem? (i := 135) (by decide +kernel))))))) (by decide +kernel)
theorem mw_sel_X10_step : (Cond.selects RX10 yX10_step yX10_step : Cond) ∈ cw := cw_of (List.mem_append_right _ (List.mem_append_right _ (List.mem_append_right _ (List.mem_append_right _ (List.mem_append_left _ (List.mem_of_getElem? (i := 53) (by decide +kernel))))))) (by decide +kernel)
theorem mw_sel_X10_stuck : (Cond.selects RX10 yX10_stuck yX10_stuck : Cond) ∈ cw := cw_of (List.mem_append_right _ (List.mem_append_right _ (List.mem_append_right _ (List.mem_append_right _ (List.mem_append_left _ (List.mem_of_getElem? (i := 230) (by decide +kernel))))))) (by decide +kernel)
theorem mw_sel_X10_town : (Cond.selects RX10 yX10_town yX10_town : Cond) ∈ cw := cw_of (List.mem_append_right _ (List.mem_append_right _ (List.mem_append_left _ (List.mem_of_getElem? (i := 194) (by decide +kernel))))) (by decide +kernel)
theorem mw_sel_X10_undo : (Cond.selects RX10 yX10_undo yX10_undo : Cond) ∈ cw := cw_of (List.mem_append_right _ (List.mem_append_right _ (List.mem_append_right _ (List.mem_append_right _ (List.mem_append_left _ (List.mem_of_getElem? (i := 156) (by decide +kernel))))))) (by decide +kernel)
theorem mw_sel_X10_walker : (Cond.selects RX10 yX10_walker yX10_walker : Cond) ∈ cw := cw_of (List.mem_append_right _ (List.mem_append_right _ (List.mem_append_right _ (List.mem_append_right _ (List.mem_append_left _ (List.mem_of_getElem? (i := 25) (by decide +kernel))))))) (by decide +kernel)
theorem mw_sel_X10_waries : (Cond.selects RX10 yX10_waries yX10_waries : Cond) ∈ cw := cw_of (List.mem_append_right _ (List.mem_append_right _ (List.mem_append_right _ (List.mem_append_right _ (List.mem_append_right _ (List.mem_append_left _ (List.mem_of_getElem? (i := 63) (by decide +kernel)))))))) (by decide +kernel)
theorem mw_sel_X10_ways : (Cond.selects RX10 yX10_ways yX10_ways : Cond) ∈ cw := cw_of (List.mem_append_right _ (List.mem_append_right _ (List.mem_append_right _ (List.mem_append_right _ (List.mem_append_left _ (List.mem_of_getElem? (i := 33) (by decide +kernel))))))) (by decide +kernel)
theorem mw_sel_X11_ahead : (Cond.selects RX11 yX11_ahead yX11_ahead : Cond) ∈ cw := cw_of (List.mem_append_right _ (List.mem_append_right _ (List.mem_append_right _ (List.mem_append_right _ (List.mem_append_right _ (List.mem_append_right _ (List.mem_append_right _ (List.mem_append_left _ (List.mem_of_getElem? (i := 68) (by decide +kernel)))))))))) (by decide +kernel)
theorem mw_sel_X11_back : (Cond.selects RX11 yX11_back yX11_back : Cond) ∈ cw := cw_of (List.mem_append_right _ (List.mem_append_right _ (List.mem_append_right _ (List.mem_append_right _ (List.mem_append_right _ (List.mem_append_right _ (List.mem_append_right _ (List.mem_append_right _ (List.mem_of_getElem? (i := 13) (by decide +kernel)))))))))) (by decide +kernel)
theorem mw_sel_X11_bait : (Cond.selects RX11 yX11_bait yX11_bait : Cond) ∈ cw := cw_of (List.mem_append_right _ (List.mem_append_right _ (List.mem_append_right _ (List.mem_append_right _ (List.mem_append_right _ (List.mem_append_right _ (List.mem_append_right _ (List.mem_append_left _ (List.mem_of_getElem? (i := 58) (by decide +kernel)))))))))) (by decide +kernel)
theorem mw_sel_X11_best : (Cond.selects RX11 yX11_best yX11_best : Cond) ∈ cw := cw_of (List.mem_append_right _ (List.mem_append_right _ (List.mem_append_right _ (List.mem_append_right _ (List.mem_append_right _ (List.mem_append_right _ (List.mem_append_right _ (List.mem_append_left _ (List.mem_of_getElem? (i := 120) (by decide +kernel)))))))))) (by decide +kernel)
theorem mw_sel_X11_calm : (Cond.selects RX11 yX11_calm yX11_calm : Cond) ∈ cw := cw_of (List.mem_append_right _ (List.mem_append_right _ (List.mem_append_right _ (List.mem_append_right _ (List.mem_append_right _ (List.mem_append_right _ (List.mem_append_right _ (List.mem_append_left _ (List.mem_of_getElem? (i := 63) (by decide +kernel)))))))))) (by decide +kernel)
theorem mw_sel_X11_count : (Cond.selects RX11 yX11_count yX11_count : Cond) ∈ cw := cw_of (List.mem_append_right _ (List.mem_append_right _ (List.mem_append_right _ (List.mem_append_right _ (List.mem_append_right _ (List.mem_append_right _ (List.mem_append_right _ (List.mem_append_right _ (List.mem_of_getElem? (i := 0) (by decide +kernel)))))))))) (by decide +kernel)
theorem mw_sel_X11_cover : (Cond.selects RX11 yX11_cover yX11_cover : Cond) ∈ cw := cw_of (List.mem_append_right _ (List.mem_append_right _ (List.mem_append_right _ (List.mem_append_right _ (List.mem_append_right _ (List.mem_append_right _ (List.mem_append_right _ (List.mem_append_left _ (List.mem_of_getElem? (i := 141) (by decide +kernel)))))))))) (by decide +kernel)
theorem mw_sel_X11_end : (Cond.selects RX11 yX11_end yX11_end : Cond) ∈ cw := cw_of (List.mem_append_right _ (List.mem_append_right _ (List.mem_append_right _ (List.mem_append_right _ (List.mem_append_right _ (List.mem_append_left _ (List.mem_of_getElem? (i := 230) (by decide +kernel)))))))) (by decide +kernel)
theorem mw_sel_X11_far : (Cond.selects RX11 yX11_far yX11_far : Cond) ∈ cw := cw_of (List.mem_append_right _ (List.mem_append_right _ (List.mem_append_right _ (List.mem_append_right _ (List.mem_append_right _ (List.mem_append_right _ (List.mem_append_right _ (List.mem_append_left _ (List.mem_of_getElem? (i := 101) (by decide +kernel)))))))))) (by decide +kernel)
theorem mw_sel_X11_feed : (Cond.selects RX11 yX11_feed yX11_feed : Cond) ∈ cw := cw_of (List.mem_append_right _ (List.mem_append_right _ (List.mem_append_right _ (List.mem_append_right _ (List.mem_append_right _ (List.mem_append_left _ (List.mem_of_getElem? (i := 222) (by decide +kernel)))))))) (by decide +kernel)
theorem mw_sel_X11_first : (Cond.selects RX11 yX11_first yX11_first : Cond) ∈ cw := cw_of (List.mem_append_right _ (List.mem_append_right _ (List.mem_append_right _ (List.mem_append_right _ (List.mem_append_right _ (List.mem_append_right _ (List.mem_append_right _ (List.mem_append_left _ (List.mem_of_getElem? (i := 94) (by decide +kernel)))))))))) (by decide +kernel)
theorem mw_sel_X11_force : (Cond.selects RX11 yX11_force yX11_force : Cond) ∈ cw := cw_of (List.mem_append_right _ (List.mem_append_right _ (List.mem_append_right _ (List.mem_append_right _ (List.mem_append_right _ (List.mem_append_right _ (List.mem_append_left _ (List.mem_of_getElem? (i := 156) (by decide +kernel))))))))) (by decide +kernel)
theorem mw_sel_X11_had : (Cond.selects RX11 yX11_had yX11_had : Cond) ∈ cw := cw_of (List.mem_append_right _ (List.mem_append_right _ (List.mem_append_right _ (List.mem_append_right _ (List.mem_append_right _ (List.mem_append_right _ (List.mem_append_right _ (List.mem_append_left _ (List.mem_of_getElem? (i := 90) (by decide +kernel)))))))))) (by decide +kernel)
theorem mw_sel_X11_hearts : (Cond.selects RX11 yX11_hearts yX11_hearts : Cond) ∈ cw := cw_of (List.mem_append_right _ (List.mem_append_right _ (List.mem_append_right _ (List.mem_append_right _ (List.mem_append_right _ (List.mem_append_right _ (List.mem_append_right _ (List.mem_append_left _ (List.mem_of_getElem? (i := 211) (by decide +kernel)))))))))) (by decide +kernel)
theorem mw_sel_X11_image : (Cond.selects RX11 yX11_image yX11_image : Cond) ∈ cw := cw_of (List.mem_append_right _ (List.mem_append_right _ (List.mem_append_right _ (List.mem_append_right _ (List.mem_append_right _ (List.mem_append_right _ (List.mem_append_right _ (List.mem_append_right _ (List.mem_of_getElem? (i := 8) (by decide +kernel)))))))))) (by decide +kernel)
theorem mw_sel_X11_kind : (Cond.selects RX11 yX11_kind yX11_kind : Cond) ∈ cw := cw_of (List.mem_append_right _ (List.mem_append_right _ (List.mem_append_right _ (List.mem_append_right _ (List.mem_append_right _ (List.mem_append_right _ (List.mem_append_right _ (List.mem_append_left _ (List.mem_of_getElem? (i := 137) (by decide +kernel)))))))))) (by decide +kernel)
theorem mw_sel_X11_look : (Cond.selects RX11 yX11_look yX11_look : Cond) ∈ cw := cw_of (List.mem_append_right _ (List.mem_append_right _ (List.mem_append_right _ (List.mem_append_right _ (List.mem_append_right _ (List.mem_append_right _ (List.mem_append_right _ (List.mem_append_left _ (List.mem_of_getElem? (i := 203) (by decide +kernel)))))))))) (by decide +kernel)
theorem mw_sel_X11_lure : (Cond.selects RX11 yX11_lure yX11_lure : Cond) ∈ cw := cw_of (List.mem_append_right _ (List.mem_append_right _ (List.mem_append_right _ (List.mem_append_right _ (List.mem_append_right _ (List.mem_append_right _ (List.mem_append_left _ (List.mem_of_getElem? (i := 164) (by decide +kernel))))))))) (by decide +kernel)
theorem mw_sel_X11_move : (Cond.selects RX11 yX11_move yX11_move : Cond) ∈ cw := cw_of (List.mem_append_right _ (List.mem_append_right _ (List.mem_append_right _ (List.mem_append_right _ (List.mem_append_right _ (List.mem_append_right _ (List.mem_append_right _ (List.mem_append_left _ (List.mem_of_getElem? (i := 54) (by decide +kernel)))))))))) (by decide +kernel)
theorem mw_sel_X11_nights : (Cond.selects RX11 yX11_nights yX11_nights : Cond) ∈ cw := cw_of (List.mem_append_right _ (List.mem_append_right _ (List.mem_append_right _ (List.mem_append_right _ (List.mem_append_right _ (List.mem_append_right _ (List.mem_append_right _ (List.mem_append_left _ (List.mem_of_getElem? (i := 227) (by decide +kernel)))))))))) (by decide +kernel)
theorem mw_sel_X11_note : (Cond.selects RX11 yX11_note yX11_note : Cond) ∈ cw := cw_of (List.mem_append_right _ (List.mem_append_right _ (List.mem_append_right _ (List.mem_append_right _ (List.mem_append_right _ (List.mem_append_right _ (List.mem_append_right _ (List.mem_append_left _ (List.mem_of_getElem? (i := 182) (by decide +kernel)))))))))) (by decide +kernel)
theorem mw_sel_X11_pence : (Cond.selects RX11 yX11_pence yX11_pence : Cond) ∈ cw := cw_of (List.mem_append_right _ (List.mem_append_right _ (List.mem_append_right _ (List.mem_append_right _ (List.mem_append_right _ (List.mem_append_right _ (List.mem_append_right _ (List.mem_append_left _ (List.mem_of_getElem? (i := 177) (by decide +kernel)))))))))) (by decide +kernel)
theorem mw_sel_X11_rests : (Cond.selects RX11 yX11_rests yX11_rests : Cond) ∈ cw := cw_of (List.mem_append_right _ (List.mem_append_right _ (List.mem_append_right _ (List.mem_append_right _ (List.mem_append_right _ (List.mem_append_right _ (List.mem_append_right _ (List.mem_append_left _ (List.mem_of_getElem? (i := 152) (by decide +kernel)))))))))) (by decide +kernel)
theorem mw_sel_X11_ring : (Cond.selects RX11 yX11_ring yX11_ring : Cond) ∈ cw := cw_of (List.mem_append_right _ (List.mem_append_right _ (List.mem_append_right _ (List.mem_append_right _ (List.mem_append_right _ (List.mem_append_right _ (List.mem_append_right _ (List.mem_append_left _ (List.mem_of_getElem? (i := 169) (by decide +kernel)))))))))) (by decide +kernel)
theorem mw_sel_X11_rule : (Cond.selects RX11 yX11_rule yX11_rule : Cond) ∈ cw := cw_of (List.mem_append_right _ (List.mem_append_right _ (List.mem_append_right _ (List.mem_append_right _ (List.mem_append_right _ (List.mem_append_left _ (List.mem_of_getElem? (i := 234) (by decide +kernel)))))))) (by decide +kernel)
theorem mw_sel_X11_ruled : (Cond.selects RX11 yX11_ruled yX11_ruled : Cond) ∈ cw := cw_of (List.mem_append_right _ (List.mem_append_right _ (List.mem_append_right _ (List.mem_append_right _ (List.mem_append_right _ (List.mem_append_right _ (List.mem_append_right _ (List.mem_append_left _ (List.mem_of_getElem? (i := 187) (by decide +kernel)))))))))) (by decide +kernel)
theorem mw_sel_X11_safe : (Cond.selects RX11 yX11_safe yX11_safe : Cond) ∈ cw := cw_of (List.mem_append_right _ (List.mem_append_right _ (List.mem_append_right _ (List.mem_append_right _ (List.mem_append_right _ (List.mem_append_right _ (List.mem_append_right _ (List.mem_append_left _ (List.mem_of_getElem? (i := 108) (by decide +kernel)))))))))) (by decide +kernel)
theorem mw_sel_X11_seed : (Cond.selects RX11 yX11_seed yX11_seed : Cond) ∈ cw := cw_of (List.mem_append_right _ (List.mem_append_right _ (List.mem_append_right _ (List.mem_append_right _ (List.mem_append_right _ (List.mem_append_right _ (List.mem_append_right _ (List.mem_append_left _ (List.mem_of_getElem? (i := 223) (by decide +kernel)))))))))) (by decide +kernel)
theorem mw_sel_X11_set : (Cond.selects RX11 yX11_set yX11_set : Cond) ∈ cw := cw_of (List.mem_append_right _ (List.mem_append_right _ (List.mem_append_right _ (List.mem_append_right _ (List.mem_append_right _ (List.mem_append_right _ (List.mem_append_right _ (List.mem_append_left _ (List.mem_of_getElem? (i := 50) (by decide +kernel)))))))))) (by decide +kernel)
theorem mw_sel_X11_step : (Cond.selects RX11 yX11_step yX11_step : Cond) ∈ cw := cw_of (List.mem_append_right _ (List.mem_append_right _ (List.mem_append_right _ (List.mem_append_right _ (List.mem_append_right _ (List.mem_append_right _ (List.mem_append_left _ (List.mem_of_getElem? (i := 212) (by decide +kernel))))))))) (by decide +kernel)
theorem mw_sel_X11_stuck : (Cond.selects RX11 yX11_stuck yX11_stuck : Cond) ∈ cw := cw_of (List.mem_append_right _ (List.mem_append_right _ (List.mem_append_right _ (List.mem_append_right _ (List.mem_append_right _ (List.mem_append_right _ (List.mem_append_right _ (List.mem_append_left _ (List.mem_of_getElem? (i := 116) (by decide +kernel)))))))))) (by decide +kernel)
theorem mw_sel_X11_town : (Cond.selects RX11 yX11_town yX11_town : Cond) ∈ cw := cw_of (List.mem_append_right _ (List.mem_append_right _ (List.mem_append_right _ (List.mem_append_right _ (List.mem_append_right _ (List.mem_append_right _ (List.mem_append_left _ (List.mem_of_getElem? (i := 148) (by decide +kernel))))))))) (by decide +kernel)
theorem mw_sel_X11_undo : (Cond.selects RX11 yX11_undo yX11_undo : Cond) ∈ cw := cw_of (List.mem_append_right _ (List.mem_append_right _ (List.mem_append_right _ (List.mem_append_right _ (List.mem_append_right _ (List.mem_append_right _ (List.mem_append_left _ (List.mem_of_getElem? (i := 208) (by decide +kernel))))))))) (by decide +kernel)
theorem mw_sel_X11_walker : (Cond.selects RX11 yX11_walker yX11_walker : Cond) ∈ cw := cw_of (List.mem_append_right _ (List.mem_append_right _ (List.mem_append_right _ (List.mem_append_right _ (List.mem_append_right _ (List.mem_append_right _ (List.mem_append_left _ (List.mem_of_getElem? (i := 180) (by decide +kernel))))))))) (by decide +kernel)
theorem mw_sel_X11_waries : (Cond.selects RX11 yX11_waries yX11_waries : Cond) ∈ cw := cw_of (List.mem_append_right _ (List.mem_append_right _ (List.mem_append_right _ (List.mem_append_right _ (List.mem_append_right _ (List.mem_append_right _ (List.mem_append_right _ (List.mem_append_left _ (List.mem_of_getElem? (i := 219) (by decide +kernel)))))))))) (by decide +kernel)
theorem mw_sel_X11_ways : (Cond.selects RX11 yX11_ways yX11_ways : Cond) ∈ cw := cw_of (List.mem_append_right _ (List.mem_append_right _ (List.mem_append_right _ (List.mem_append_right _ (List.mem_append_right _ (List.mem_append_right _ (List.mem_append_left _ (List.mem_of_getElem? (i := 200) (by decide +kernel))))))))) (by decide +kernel)
theorem dL_law_192 : decode code 192 = .ok (.aload_n 1, 1) := by decide +kernel
theorem dL_law_193 : decode code 193 = .ok (.aload_n 0, 1) := by decide +kernel
theorem dL_law_194 : decode code 194 = .ok (.iload_n 3, 1) := by decide +kernel
theorem dL_law_195 : decode code 195 = .ok (.iconst 1, 1) := by decide +kernel
theorem dL_law_196 : decode code 196 = .ok (.iadd, 1) := by decide +kernel
theorem dL_law_197 : decode code 197 = .ok (.iaload, 1) := by decide +kernel
theorem dL_law_198 : decode code 198 = .ok (.aload_n 0, 1) := by decide +kernel
theorem dL_law_199 : decode code 199 = .ok (.iload_n 3, 1) := by decide +kernel
theorem dL_law_200 : decode code 200 = .ok (.iconst 2, 1) := by decide +kernel
theorem dL_law_201 : decode code 201 = .ok (.iadd, 1) := by decide +kernel
theorem dL_law_202 : decode code 202 = .ok (.iaload, 1) := by decide +kernel
theorem dL_law_203 : decode code 203 = .ok (.aload_n 0, 1) := by decide +kernel
theorem dL_law_204 : decode code 204 = .ok (.iload_n 3, 1) := by decide +kernel
theorem dL_law_205 : decode code 205 = .ok (.iconst 3, 1) := by decide +kernel
theorem dL_law_206 : decode code 206 = .ok (.iadd, 1) := by decide +kernel
theorem dL_law_207 : decode code 207 = .ok (.iaload, 1) := by decide +kernel
theorem dL_law_208 : decode code 208 = .ok (.aload_n 0, 1) := by decide +kernel
theorem dL_law_209 : decode code 209 = .ok (.iload_n 3, 1) := by decide +kernel
theorem dL_law_210 : decode code 210 = .ok (.iconst 4, 1) := by decide +kernel
theorem dL_law_211 : decode code 211 = .ok (.iadd, 1) := by decide +kernel
theorem dL_law_212 : decode code 212 = .ok (.iaload, 1) := by decide +kernel
theorem dL_law_213 : decode code 213 = .ok (.aload_n 0, 1) := by decide +kernel
theorem dL_law_214 : decode code 214 = .ok (.iload_n 3, 1) := by decide +kernel
theorem dL_law_215 : decode code 215 = .ok (.iconst 5, 1) := by decide +kernel
theorem dL_law_216 : decode code 216 = .ok (.iadd, 1) := by decide +kernel
theorem dL_law_217 : decode code 217 = .ok (.iaload, 1) := by decide +kernel
theorem dL_law_218 : decode code 218 = .ok (.invokevirtual 13, 3) := by decide +kernel
theorem dL_law_221 : decode code 221 = .ok (.pop, 1) := by decide +kernel
theorem dL_law_222 : decode code 222 = .ok (.aload_n 2, 1) := by decide +kernel
theorem dL_law_223 : decode code 223 = .ok (.aload_n 0, 1) := by decide +kernel
theorem dL_law_224 : decode code 224 = .ok (.iload_n 3, 1) := by decide +kernel
theorem dL_law_225 : decode code 225 = .ok (.iconst 1, 1) := by decide +kernel
theorem dL_law_226 : decode code 226 = .ok (.iadd, 1) := by decide +kernel
theorem dL_law_227 : decode code 227 = .ok (.iaload, 1) := by decide +kernel
theorem dL_law_228 : decode code 228 = .ok (.aload_n 0, 1) := by decide +kernel
theorem dL_law_229 : decode code 229 = .ok (.iload_n 3, 1) := by decide +kernel
theorem dL_law_230 : decode code 230 = .ok (.iconst 2, 1) := by decide +kernel
theorem dL_law_231 : decode code 231 = .ok (.iadd, 1) := by decide +kernel
theorem dL_law_232 : decode code 232 = .ok (.iaload, 1) := by decide +kernel
theorem dL_law_233 : decode code 233 = .ok (.aload_n 0, 1) := by decide +kernel
theorem dL_law_234 : decode code 234 = .ok (.iload_n 3, 1) := by decide +kernel
theorem dL_law_235 : decode code 235 = .ok (.iconst 3, 1) := by decide +kernel
theorem dL_law_236 : decode code 236 = .ok (.iadd, 1) := by decide +kernel
theorem dL_law_237 : decode code 237 = .ok (.iaload, 1) := by decide +kernel
theorem dL_law_238 : decode code 238 = .ok (.aload_n 0, 1) := by decide +kernel
theorem dL_law_239 : decode code 239 = .ok (.iload_n 3, 1) := by decide +kernel
theorem dL_law_240 : decode code 240 = .ok (.iconst 4, 1) := by decide +kernel
theorem dL_law_241 : decode code 241 = .ok (.iadd, 1) := by decide +kernel
theorem dL_law_242 : decode code 242 = .ok (.iaload, 1) := by decide +kernel
theorem dL_law_243 : decode code 243 = .ok (.aload_n 0, 1) := by decide +kernel
theorem dL_law_244 : decode code 244 = .ok (.iload_n 3, 1) := by decide +kernel
theorem dL_law_245 : decode code 245 = .ok (.iconst 5, 1) := by decide +kernel
theorem dL_law_246 : decode code 246 = .ok (.iadd, 1) := by decide +kernel
theorem dL_law_247 : decode code 247 = .ok (.iaload, 1) := by decide +kernel
theorem dL_law_248 : decode code 248 = .ok (.invokevirtual 17, 3) := by decide +kernel
theorem dL_law_251 : decode code 251 = .ok (.pop, 1) := by decide +kernel
theorem dL_law_252 : decode code 252 = .ok (.goto 998, 3) := by decide +kernel
theorem dL_law_255 : decode code 255 = .ok (.aload_n 1, 1) := by decide +kernel
theorem dL_law_256 : decode code 256 = .ok (.aload_n 0, 1) := by decide +kernel
theorem dL_law_257 : decode code 257 = .ok (.iload_n 3, 1) := by decide +kernel
theorem dL_law_258 : decode code 258 = .ok (.iconst 1, 1) := by decide +kernel
theorem dL_law_259 : decode code 259 = .ok (.iadd, 1) := by decide +kernel
theorem dL_law_260 : decode code 260 = .ok (.iaload, 1) := by decide +kernel
theorem dL_law_261 : decode code 261 = .ok (.invokevirtual 18, 3) := by decide +kernel
theorem dL_law_264 : decode code 264 = .ok (.pop, 1) := by decide +kernel
theorem dL_law_265 : decode code 265 = .ok (.aload_n 2, 1) := by decide +kernel
theorem dL_law_266 : decode code 266 = .ok (.aload_n 0, 1) := by decide +kernel
theorem dL_law_267 : decode code 267 = .ok (.iload_n 3, 1) := by decide +kernel
theorem dL_law_268 : decode code 268 = .ok (.iconst 1, 1) := by decide +kernel
theorem dL_law_269 : decode code 269 = .ok (.iadd, 1) := by decide +kernel
theorem dL_law_270 : decode code 270 = .ok (.iaload, 1) := by decide +kernel
theorem dL_law_271 : decode code 271 = .ok (.invokevirtual 22, 3) := by decide +kernel
theorem dL_law_274 : decode code 274 = .ok (.pop, 1) := by decide +kernel
theorem dL_law_275 : decode code 275 = .ok (.goto 975, 3) := by decide +kernel
theorem dL_law_278 : decode code 278 = .ok (.aload_n 1, 1) := by decide +kernel
theorem dL_law_279 : decode code 279 = .ok (.invokevirtual 23, 3) := by decide +kernel
theorem dL_law_282 : decode code 282 = .ok (.pop, 1) := by decide +kernel
theorem dL_law_283 : decode code 283 = .ok (.aload_n 2, 1) := by decide +kernel
theorem dL_law_284 : decode code 284 = .ok (.invokevirtual 27, 3) := by decide +kernel
theorem dL_law_287 : decode code 287 = .ok (.pop, 1) := by decide +kernel
theorem dL_law_288 : decode code 288 = .ok (.goto 962, 3) := by decide +kernel
theorem dL_law_291 : decode code 291 = .ok (.aload_n 1, 1) := by decide +kernel
theorem dL_law_292 : decode code 292 = .ok (.invokevirtual 28, 3) := by decide +kernel
theorem dL_law_295 : decode code 295 = .ok (.pop, 1) := by decide +kernel
theorem dL_law_296 : decode code 296 = .ok (.aload_n 2, 1) := by decide +kernel
theorem dL_law_297 : decode code 297 = .ok (.invokevirtual 31, 3) := by decide +kernel
theorem dL_law_300 : decode code 300 = .ok (.pop, 1) := by decide +kernel
theorem dL_law_301 : decode code 301 = .ok (.goto 949, 3) := by decide +kernel
theorem dL_law_304 : decode code 304 = .ok (.aload_n 1, 1) := by decide +kernel
theorem dL_law_305 : decode code 305 = .ok (.aload_n 0, 1) := by decide +kernel
theorem dL_law_306 : decode code 306 = .ok (.iload_n 3, 1) := by decide +kernel
theorem dL_law_307 : decode code 307 = .ok (.iconst 1, 1) := by decide +kernel
theorem dL_law_308 : decode code 308 = .ok (.iadd, 1) := by decide +kernel
theorem dL_law_309 : decode code 309 = .ok (.iaload, 1) := by decide +kernel
theorem dL_law_310 : decode code 310 = .ok (.invokevirtual 32, 3) := by decide +kernel
theorem dL_law_313 : decode code 313 = .ok (.pop, 1) := by decide +kernel
theorem dL_law_314 : decode code 314 = .ok (.aload_n 2, 1) := by decide +kernel
theorem dL_law_315 : decode code 315 = .ok (.aload_n 0, 1) := by decide +kernel
theorem dL_law_316 : decode code 316 = .ok (.iload_n 3, 1) := by decide +kernel
theorem dL_law_317 : decode code 317 = .ok (.iconst 1, 1) := by decide +kernel
theorem dL_law_318 : decode code 318 = .ok (.iadd, 1) := by decide +kernel
theorem dL_law_319 : decode code 319 = .ok (.iaload, 1) := by decide +kernel
theorem dL_law_320 : decode code 320 = .ok (.invokevirtual 35, 3) := by decide +kernel
theorem dL_law_323 : decode code 323 = .ok (.pop, 1) := by decide +kernel
theorem dL_law_324 : decode code 324 = .ok (.goto 926, 3) := by decide +kernel
theorem dL_law_327 : decode code 327 = .ok (.aload_n 1, 1) := by decide +kernel
theorem dL_law_328 : decode code 328 = .ok (.aload_n 0, 1) := by decide +kernel
theorem dL_law_329 : decode code 329 = .ok (.iload_n 3, 1) := by decide +kernel
theorem dL_law_330 : decode code 330 = .ok (.iconst 1, 1) := by decide +kernel
theorem dL_law_331 : decode code 331 = .ok (.iadd, 1) := by decide +kernel
theorem dL_law_332 : decode code 332 = .ok (.iaload, 1) := by decide +kernel
theorem dL_law_333 : decode code 333 = .ok (.aload_n 0, 1) := by decide +kernel
theorem dL_law_334 : decode code 334 = .ok (.iload_n 3, 1) := by decide +kernel
theorem dL_law_335 : decode code 335 = .ok (.iconst 2, 1) := by decide +kernel
theorem dL_law_336 : decode code 336 = .ok (.iadd, 1) := by decide +kernel
theorem dL_law_337 : decode code 337 = .ok (.iaload, 1) := by decide +kernel
theorem dL_law_338 : decode code 338 = .ok (.invokevirtual 36, 3) := by decide +kernel
theorem dL_law_341 : decode code 341 = .ok (.pop, 1) := by decide +kernel
theorem dL_law_342 : decode code 342 = .ok (.aload_n 2, 1) := by decide +kernel
theorem dL_law_343 : decode code 343 = .ok (.aload_n 0, 1) := by decide +kernel
theorem dL_law_344 : decode code 344 = .ok (.iload_n 3, 1) := by decide +kernel
theorem dL_law_345 : decode code 345 = .ok (.iconst 1, 1) := by decide +kernel
theorem dL_law_346 : decode code 346 = .ok (.iadd, 1) := by decide +kernel
theorem dL_law_347 : decode code 347 = .ok (.iaload, 1) := by decide +kernel
theorem dL_law_348 : decode code 348 = .ok (.aload_n 0, 1) := by decide +kernel
theorem dL_law_349 : decode code 349 = .ok (.iload_n 3, 1) := by decide +kernel
theorem dL_law_350 : decode code 350 = .ok (.iconst 2, 1) := by decide +kernel
theorem dL_law_351 : decode code 351 = .ok (.iadd, 1) := by decide +kernel
theorem dL_law_352 : decode code 352 = .ok (.iaload, 1) := by decide +kernel
theorem dL_law_353 : decode code 353 = .ok (.invokevirtual 40, 3) := by decide +kernel
theorem dL_law_356 : decode code 356 = .ok (.pop, 1) := by decide +kernel
theorem dL_law_357 : decode code 357 = .ok (.goto 893, 3) := by decide +kernel
theorem dL_law_360 : decode code 360 = .ok (.aload_n 1, 1) := by decide +kernel
theorem dL_law_361 : decode code 361 = .ok (.aload_n 0, 1) := by decide +kernel
theorem dL_law_362 : decode code 362 = .ok (.iload_n 3, 1) := by decide +kernel
theorem dL_law_363 : decode code 363 = .ok (.iconst 1, 1) := by decide +kernel
theorem dL_law_364 : decode code 364 = .ok (.iadd, 1) := by decide +kernel
theorem dL_law_365 : decode code 365 = .ok (.iaload, 1) := by decide +kernel
theorem dL_law_366 : decode code 366 = .ok (.aload_n 0, 1) := by decide +kernel
theorem dL_law_367 : decode code 367 = .ok (.iload_n 3, 1) := by decide +kernel
theorem dL_law_368 : decode code 368 = .ok (.iconst 2, 1) := by decide +kernel
theorem dL_law_369 : decode code 369 = .ok (.iadd, 1) := by decide +kernel
theorem dL_law_370 : decode code 370 = .ok (.iaload, 1) := by decide +kernel
theorem dL_law_371 : decode code 371 = .ok (.invokevirtual 41, 3) := by decide +kernel
theorem dL_law_374 : decode code 374 = .ok (.pop, 1) := by decide +kernel
theorem dL_law_375 : decode code 375 = .ok (.aload_n 2, 1) := by decide +kernel
theorem dL_law_376 : decode code 376 = .ok (.aload_n 0, 1) := by decide +kernel
theorem dL_law_377 : decode code 377 = .ok (.iload_n 3, 1) := by decide +kernel
theorem dL_law_378 : decode code 378 = .ok (.iconst 1, 1) := by decide +kernel
theorem dL_law_379 : decode code 379 = .ok (.iadd, 1) := by decide +kernel
theorem dL_law_380 : decode code 380 = .ok (.iaload, 1) := by decide +kernel
theorem dL_law_381 : decode code 381 = .ok (.aload_n 0, 1) := by decide +kernel
theorem dL_law_382 : decode code 382 = .ok (.iload_n 3, 1) := by decide +kernel
theorem dL_law_383 : decode code 383 = .ok (.iconst 2, 1) := by decide +kernel
theorem dL_law_384 : decode code 384 = .ok (.iadd, 1) := by decide +kernel
theorem dL_law_385 : decode code 385 = .ok (.iaload, 1) := by decide +kernel
theorem dL_law_386 : decode code 386 = .ok (.invokevirtual 44, 3) := by decide +kernel
theorem dL_law_389 : decode code 389 = .ok (.pop, 1) := by decide +kernel
theorem dL_law_390 : decode code 390 = .ok (.goto 860, 3) := by decide +kernel
theorem dL_law_393 : decode code 393 = .ok (.aload_n 1, 1) := by decide +kernel
theorem dL_law_394 : decode code 394 = .ok (.aload_n 0, 1) := by decide +kernel
theorem dL_law_395 : decode code 395 = .ok (.iload_n 3, 1) := by decide +kernel
theorem dL_law_396 : decode code 396 = .ok (.iconst 1, 1) := by decide +kernel
theorem dL_law_397 : decode code 397 = .ok (.iadd, 1) := by decide +kernel
theorem dL_law_398 : decode code 398 = .ok (.iaload, 1) := by decide +kernel
theorem dL_law_399 : decode code 399 = .ok (.invokevirtual 45, 3) := by decide +kernel
theorem dL_law_402 : decode code 402 = .ok (.pop, 1) := by decide +kernel
theorem dL_law_403 : decode code 403 = .ok (.aload_n 2, 1) := by decide +kernel
theorem dL_law_404 : decode code 404 = .ok (.aload_n 0, 1) := by decide +kernel
theorem dL_law_405 : decode code 405 = .ok (.iload_n 3, 1) := by decide +kernel
theorem dL_law_406 : decode code 406 = .ok (.iconst 1, 1) := by decide +kernel
theorem dL_law_407 : decode code 407 = .ok (.iadd, 1) := by decide +kernel
theorem dL_law_408 : decode code 408 = .ok (.iaload, 1) := by decide +kernel
theorem dL_law_409 : decode code 409 = .ok (.invokevirtual 48, 3) := by decide +kernel
theorem dL_law_412 : decode code 412 = .ok (.pop, 1) := by decide +kernel
theorem dL_law_413 : decode code 413 = .ok (.goto 837, 3) := by decide +kernel
theorem dL_law_416 : decode code 416 = .ok (.aload_n 1, 1) := by decide +kernel
theorem dL_law_417 : decode code 417 = .ok (.invokevirtual 49, 3) := by decide +kernel
theorem dL_law_420 : decode code 420 = .ok (.pop, 1) := by decide +kernel
theorem dL_law_421 : decode code 421 = .ok (.aload_n 2, 1) := by decide +kernel
theorem dL_law_422 : decode code 422 = .ok (.invokevirtual 52, 3) := by decide +kernel
theorem dL_law_425 : decode code 425 = .ok (.pop, 1) := by decide +kernel
theorem dL_law_426 : decode code 426 = .ok (.goto 824, 3) := by decide +kernel
theorem dL_law_429 : decode code 429 = .ok (.aload_n 1, 1) := by decide +kernel
theorem dL_law_430 : decode code 430 = .ok (.aload_n 0, 1) := by decide +kernel
theorem dL_law_431 : decode code 431 = .ok (.iload_n 3, 1) := by decide +kernel
theorem dL_law_432 : decode code 432 = .ok (.iconst 1, 1) := by decide +kernel
theorem dL_law_433 : decode code 433 = .ok (.iadd, 1) := by decide +kernel
theorem dL_law_434 : decode code 434 = .ok (.iaload, 1) := by decide +kernel
theorem dL_law_435 : decode code 435 = .ok (.aload_n 0, 1) := by decide +kernel
theorem dL_law_436 : decode code 436 = .ok (.iload_n 3, 1) := by decide +kernel
theorem dL_law_437 : decode code 437 = .ok (.iconst 2, 1) := by decide +kernel
theorem dL_law_438 : decode code 438 = .ok (.iadd, 1) := by decide +kernel
theorem dL_law_439 : decode code 439 = .ok (.iaload, 1) := by decide +kernel
theorem dL_law_440 : decode code 440 = .ok (.invokevirtual 53, 3) := by decide +kernel
theorem dL_law_443 : decode code 443 = .ok (.pop, 1) := by decide +kernel
theorem dL_law_444 : decode code 444 = .ok (.aload_n 2, 1) := by decide +kernel
theorem dL_law_445 : decode code 445 = .ok (.aload_n 0, 1) := by decide +kernel
theorem dL_law_446 : decode code 446 = .ok (.iload_n 3, 1) := by decide +kernel
theorem dL_law_447 : decode code 447 = .ok (.iconst 1, 1) := by decide +kernel
theorem dL_law_448 : decode code 448 = .ok (.iadd, 1) := by decide +kernel
theorem dL_law_449 : decode code 449 = .ok (.iaload, 1) := by decide +kernel
theorem dL_law_450 : decode code 450 = .ok (.aload_n 0, 1) := by decide +kernel
theorem dL_law_451 : decode code 451 = .ok (.iload_n 3, 1) := by decide +kernel
theorem dL_law_452 : decode code 452 = .ok (.iconst 2, 1) := by decide +kernel
theorem dL_law_453 : decode code 453 = .ok (.iadd, 1) := by decide +kernel
theorem dL_law_454 : decode code 454 = .ok (.iaload, 1) := by decide +kernel
theorem dL_law_455 : decode code 455 = .ok (.invokevirtual 56, 3) := by decide +kernel
theorem dL_law_458 : decode code 458 = .ok (.pop, 1) := by decide +kernel
theorem dL_law_459 : decode code 459 = .ok (.goto 791, 3) := by decide +kernel
theorem dL_law_462 : decode code 462 = .ok (.aload_n 1, 1) := by decide +kernel
theorem dL_law_463 : decode code 463 = .ok (.aload_n 0, 1) := by decide +kernel
theorem dL_law_464 : decode code 464 = .ok (.iload_n 3, 1) := by decide +kernel
theorem dL_law_465 : decode code 465 = .ok (.iconst 1, 1) := by decide +kernel
theorem dL_law_466 : decode code 466 = .ok (.iadd, 1) := by decide +kernel
theorem dL_law_467 : decode code 467 = .ok (.iaload, 1) := by decide +kernel
theorem dL_law_468 : decode code 468 = .ok (.aload_n 0, 1) := by decide +kernel
theorem dL_law_469 : decode code 469 = .ok (.iload_n 3, 1) := by decide +kernel
theorem dL_law_470 : decode code 470 = .ok (.iconst 2, 1) := by decide +kernel
theorem dL_law_471 : decode code 471 = .ok (.iadd, 1) := by decide +kernel
theorem dL_law_472 : decode code 472 = .ok (.iaload, 1) := by decide +kernel
theorem dL_law_473 : decode code 473 = .ok (.invokevirtual 57, 3) := by decide +kernel
theorem dL_law_476 : decode code 476 = .ok (.pop, 1) := by decide +kernel
theorem dL_law_477 : decode code 477 = .ok (.aload_n 2, 1) := by decide +kernel
theorem dL_law_478 : decode code 478 = .ok (.aload_n 0, 1) := by decide +kernel
theorem dL_law_479 : decode code 479 = .ok (.iload_n 3, 1) := by decide +kernel
theorem dL_law_480 : decode code 480 = .ok (.iconst 1, 1) := by decide +kernel
theorem dL_law_481 : decode code 481 = .ok (.iadd, 1) := by decide +kernel
theorem dL_law_482 : decode code 482 = .ok (.iaload, 1) := by decide +kernel
theorem dL_law_483 : decode code 483 = .ok (.aload_n 0, 1) := by decide +kernel
theorem dL_law_484 : decode code 484 = .ok (.iload_n 3, 1) := by decide +kernel
theorem dL_law_485 : decode code 485 = .ok (.iconst 2, 1) := by decide +kernel
theorem dL_law_486 : decode code 486 = .ok (.iadd, 1) := by decide +kernel
theorem dL_law_487 : decode code 487 = .ok (.iaload, 1) := by decide +kernel
theorem dL_law_488 : decode code 488 = .ok (.invokevirtual 60, 3) := by decide +kernel
theorem dL_law_491 : decode code 491 = .ok (.pop, 1) := by decide +kernel
theorem dL_law_492 : decode code 492 = .ok (.goto 758, 3) := by decide +kernel
theorem dL_law_495 : decode code 495 = .ok (.aload_n 1, 1) := by decide +kernel
theorem dL_law_496 : decode code 496 = .ok (.aload_n 0, 1) := by decide +kernel
theorem dL_law_497 : decode code 497 = .ok (.iload_n 3, 1) := by decide +kernel
theorem dL_law_498 : decode code 498 = .ok (.iconst 1, 1) := by decide +kernel
theorem dL_law_499 : decode code 499 = .ok (.iadd, 1) := by decide +kernel
theorem dL_law_500 : decode code 500 = .ok (.iaload, 1) := by decide +kernel
theorem dL_law_501 : decode code 501 = .ok (.aload_n 0, 1) := by decide +kernel
theorem dL_law_502 : decode code 502 = .ok (.iload_n 3, 1) := by decide +kernel
theorem dL_law_503 : decode code 503 = .ok (.iconst 2, 1) := by decide +kernel
theorem dL_law_504 : decode code 504 = .ok (.iadd, 1) := by decide +kernel
theorem dL_law_505 : decode code 505 = .ok (.iaload, 1) := by decide +kernel
theorem dL_law_506 : decode code 506 = .ok (.invokevirtual 61, 3) := by decide +kernel
theorem dL_law_509 : decode code 509 = .ok (.pop, 1) := by decide +kernel
theorem dL_law_510 : decode code 510 = .ok (.aload_n 2, 1) := by decide +kernel
theorem dL_law_511 : decode code 511 = .ok (.aload_n 0, 1) := by decide +kernel
theorem dL_law_512 : decode code 512 = .ok (.iload_n 3, 1) := by decide +kernel
theorem dL_law_513 : decode code 513 = .ok (.iconst 1, 1) := by decide +kernel
theorem dL_law_514 : decode code 514 = .ok (.iadd, 1) := by decide +kernel
theorem dL_law_515 : decode code 515 = .ok (.iaload, 1) := by decide +kernel
theorem dL_law_516 : decode code 516 = .ok (.aload_n 0, 1) := by decide +kernel
theorem dL_law_517 : decode code 517 = .ok (.iload_n 3, 1) := by decide +kernel
theorem dL_law_518 : decode code 518 = .ok (.iconst 2, 1) := by decide +kernel
theorem dL_law_519 : decode code 519 = .ok (.iadd, 1) := by decide +kernel
theorem dL_law_520 : decode code 520 = .ok (.iaload, 1) := by decide +kernel
theorem dL_law_521 : decode code 521 = .ok (.invokevirtual 64, 3) := by decide +kernel
theorem dL_law_524 : decode code 524 = .ok (.pop, 1) := by decide +kernel
theorem dL_law_525 : decode code 525 = .ok (.goto 725, 3) := by decide +kernel
theorem dL_law_528 : decode code 528 = .ok (.aload_n 1, 1) := by decide +kernel
theorem dL_law_529 : decode code 529 = .ok (.aload_n 0, 1) := by decide +kernel
theorem dL_law_530 : decode code 530 = .ok (.iload_n 3, 1) := by decide +kernel
theorem dL_law_531 : decode code 531 = .ok (.iconst 1, 1) := by decide +kernel
theorem dL_law_532 : decode code 532 = .ok (.iadd, 1) := by decide +kernel
theorem dL_law_533 : decode code 533 = .ok (.iaload, 1) := by decide +kernel
theorem dL_law_534 : decode code 534 = .ok (.aload_n 0, 1) := by decide +kernel
theorem dL_law_535 : decode code 535 = .ok (.iload_n 3, 1) := by decide +kernel
theorem dL_law_536 : decode code 536 = .ok (.iconst 2, 1) := by decide +kernel
theorem dL_law_537 : decode code 537 = .ok (.iadd, 1) := by decide +kernel
theorem dL_law_538 : decode code 538 = .ok (.iaload, 1) := by decide +kernel
theorem dL_law_539 : decode code 539 = .ok (.invokevirtual 65, 3) := by decide +kernel
theorem dL_law_542 : decode code 542 = .ok (.pop, 1) := by decide +kernel
theorem dL_law_543 : decode code 543 = .ok (.aload_n 2, 1) := by decide +kernel
theorem dL_law_544 : decode code 544 = .ok (.aload_n 0, 1) := by decide +kernel
theorem dL_law_545 : decode code 545 = .ok (.iload_n 3, 1) := by decide +kernel
theorem dL_law_546 : decode code 546 = .ok (.iconst 1, 1) := by decide +kernel
theorem dL_law_547 : decode code 547 = .ok (.iadd, 1) := by decide +kernel
theorem dL_law_548 : decode code 548 = .ok (.iaload, 1) := by decide +kernel
theorem dL_law_549 : decode code 549 = .ok (.aload_n 0, 1) := by decide +kernel
theorem dL_law_550 : decode code 550 = .ok (.iload_n 3, 1) := by decide +kernel
theorem dL_law_551 : decode code 551 = .ok (.iconst 2, 1) := by decide +kernel
theorem dL_law_552 : decode code 552 = .ok (.iadd, 1) := by decide +kernel
theorem dL_law_553 : decode code 553 = .ok (.iaload, 1) := by decide +kernel
theorem dL_law_554 : decode code 554 = .ok (.invokevirtual 68, 3) := by decide +kernel
theorem dL_law_557 : decode code 557 = .ok (.pop, 1) := by decide +kernel
theorem dL_law_558 : decode code 558 = .ok (.goto 692, 3) := by decide +kernel
theorem dL_law_561 : decode code 561 = .ok (.aload_n 1, 1) := by decide +kernel
theorem dL_law_562 : decode code 562 = .ok (.invokevirtual 69, 3) := by decide +kernel
theorem dL_law_565 : decode code 565 = .ok (.pop, 1) := by decide +kernel
theorem dL_law_566 : decode code 566 = .ok (.aload_n 2, 1) := by decide +kernel
theorem dL_law_567 : decode code 567 = .ok (.invokevirtual 72, 3) := by decide +kernel
theorem dL_law_570 : decode code 570 = .ok (.pop, 1) := by decide +kernel
theorem dL_law_571 : decode code 571 = .ok (.goto 679, 3) := by decide +kernel
theorem dL_law_574 : decode code 574 = .ok (.aload_n 1, 1) := by decide +kernel
theorem dL_law_575 : decode code 575 = .ok (.aload_n 0, 1) := by decide +kernel
theorem dL_law_576 : decode code 576 = .ok (.iload_n 3, 1) := by decide +kernel
theorem dL_law_577 : decode code 577 = .ok (.iconst 1, 1) := by decide +kernel
theorem dL_law_578 : decode code 578 = .ok (.iadd, 1) := by decide +kernel
theorem dL_law_579 : decode code 579 = .ok (.iaload, 1) := by decide +kernel
theorem dL_law_580 : decode code 580 = .ok (.aload_n 0, 1) := by decide +kernel
theorem dL_law_581 : decode code 581 = .ok (.iload_n 3, 1) := by decide +kernel
theorem dL_law_582 : decode code 582 = .ok (.iconst 2, 1) := by decide +kernel
theorem dL_law_583 : decode code 583 = .ok (.iadd, 1) := by decide +kernel
theorem dL_law_584 : decode code 584 = .ok (.iaload, 1) := by decide +kernel
theorem dL_law_585 : decode code 585 = .ok (.aload_n 0, 1) := by decide +kernel
theorem dL_law_586 : decode code 586 = .ok (.iload_n 3, 1) := by decide +kernel
theorem dL_law_587 : decode code 587 = .ok (.iconst 3, 1) := by decide +kernel
theorem dL_law_588 : decode code 588 = .ok (.iadd, 1) := by decide +kernel
theorem dL_law_589 : decode code 589 = .ok (.iaload, 1) := by decide +kernel
theorem dL_law_590 : decode code 590 = .ok (.invokevirtual 73, 3) := by decide +kernel
theorem dL_law_593 : decode code 593 = .ok (.pop, 1) := by decide +kernel
theorem dL_law_594 : decode code 594 = .ok (.aload_n 2, 1) := by decide +kernel
theorem dL_law_595 : decode code 595 = .ok (.aload_n 0, 1) := by decide +kernel
theorem dL_law_596 : decode code 596 = .ok (.iload_n 3, 1) := by decide +kernel
theorem dL_law_597 : decode code 597 = .ok (.iconst 1, 1) := by decide +kernel
theorem dL_law_598 : decode code 598 = .ok (.iadd, 1) := by decide +kernel
theorem dL_law_599 : decode code 599 = .ok (.iaload, 1) := by decide +kernel
theorem dL_law_600 : decode code 600 = .ok (.aload_n 0, 1) := by decide +kernel
theorem dL_law_601 : decode code 601 = .ok (.iload_n 3, 1) := by decide +kernel
theorem dL_law_602 : decode code 602 = .ok (.iconst 2, 1) := by decide +kernel
theorem dL_law_603 : decode code 603 = .ok (.iadd, 1) := by decide +kernel
theorem dL_law_604 : decode code 604 = .ok (.iaload, 1) := by decide +kernel
theorem dL_law_605 : decode code 605 = .ok (.aload_n 0, 1) := by decide +kernel
theorem dL_law_606 : decode code 606 = .ok (.iload_n 3, 1) := by decide +kernel
theorem dL_law_607 : decode code 607 = .ok (.iconst 3, 1) := by decide +kernel
theorem dL_law_608 : decode code 608 = .ok (.iadd, 1) := by decide +kernel
theorem dL_law_609 : decode code 609 = .ok (.iaload, 1) := by decide +kernel
theorem dL_law_610 : decode code 610 = .ok (.invokevirtual 77, 3) := by decide +kernel
theorem dL_law_613 : decode code 613 = .ok (.pop, 1) := by decide +kernel
theorem dL_law_614 : decode code 614 = .ok (.goto 636, 3) := by decide +kernel
theorem dL_law_617 : decode code 617 = .ok (.aload_n 1, 1) := by decide +kernel
theorem dL_law_618 : decode code 618 = .ok (.aload_n 0, 1) := by decide +kernel
theorem dL_law_619 : decode code 619 = .ok (.iload_n 3, 1) := by decide +kernel
theorem dL_law_620 : decode code 620 = .ok (.iconst 1, 1) := by decide +kernel
theorem dL_law_621 : decode code 621 = .ok (.iadd, 1) := by decide +kernel
theorem dL_law_622 : decode code 622 = .ok (.iaload, 1) := by decide +kernel
theorem dL_law_623 : decode code 623 = .ok (.aload_n 0, 1) := by decide +kernel
theorem dL_law_624 : decode code 624 = .ok (.iload_n 3, 1) := by decide +kernel
theorem dL_law_625 : decode code 625 = .ok (.iconst 2, 1) := by decide +kernel
theorem dL_law_626 : decode code 626 = .ok (.iadd, 1) := by decide +kernel
theorem dL_law_627 : decode code 627 = .ok (.iaload, 1) := by decide +kernel
theorem dL_law_628 : decode code 628 = .ok (.invokevirtual 78, 3) := by decide +kernel
theorem dL_law_631 : decode code 631 = .ok (.pop, 1) := by decide +kernel
theorem dL_law_632 : decode code 632 = .ok (.aload_n 2, 1) := by decide +kernel
theorem dL_law_633 : decode code 633 = .ok (.aload_n 0, 1) := by decide +kernel
theorem dL_law_634 : decode code 634 = .ok (.iload_n 3, 1) := by decide +kernel
theorem dL_law_635 : decode code 635 = .ok (.iconst 1, 1) := by decide +kernel
theorem dL_law_636 : decode code 636 = .ok (.iadd, 1) := by decide +kernel
theorem dL_law_637 : decode code 637 = .ok (.iaload, 1) := by decide +kernel
theorem dL_law_638 : decode code 638 = .ok (.aload_n 0, 1) := by decide +kernel
theorem dL_law_639 : decode code 639 = .ok (.iload_n 3, 1) := by decide +kernel
theorem dL_law_640 : decode code 640 = .ok (.iconst 2, 1) := by decide +kernel
theorem dL_law_641 : decode code 641 = .ok (.iadd, 1) := by decide +kernel
theorem dL_law_642 : decode code 642 = .ok (.iaload, 1) := by decide +kernel
theorem dL_law_643 : decode code 643 = .ok (.invokevirtual 81, 3) := by decide +kernel
theorem dL_law_646 : decode code 646 = .ok (.pop, 1) := by decide +kernel
theorem dL_law_647 : decode code 647 = .ok (.goto 603, 3) := by decide +kernel
theorem dL_law_650 : decode code 650 = .ok (.aload_n 1, 1) := by decide +kernel
theorem dL_law_651 : decode code 651 = .ok (.aload_n 0, 1) := by decide +kernel
theorem dL_law_652 : decode code 652 = .ok (.iload_n 3, 1) := by decide +kernel
theorem dL_law_653 : decode code 653 = .ok (.iconst 1, 1) := by decide +kernel
theorem dL_law_654 : decode code 654 = .ok (.iadd, 1) := by decide +kernel
theorem dL_law_655 : decode code 655 = .ok (.iaload, 1) := by decide +kernel
theorem dL_law_656 : decode code 656 = .ok (.invokevirtual 82, 3) := by decide +kernel
theorem dL_law_659 : decode code 659 = .ok (.pop, 1) := by decide +kernel
theorem dL_law_660 : decode code 660 = .ok (.aload_n 2, 1) := by decide +kernel
theorem dL_law_661 : decode code 661 = .ok (.aload_n 0, 1) := by decide +kernel
theorem dL_law_662 : decode code 662 = .ok (.iload_n 3, 1) := by decide +kernel
theorem dL_law_663 : decode code 663 = .ok (.iconst 1, 1) := by decide +kernel
theorem dL_law_664 : decode code 664 = .ok (.iadd, 1) := by decide +kernel
theorem dL_law_665 : decode code 665 = .ok (.iaload, 1) := by decide +kernel
theorem dL_law_666 : decode code 666 = .ok (.invokevirtual 85, 3) := by decide +kernel
theorem dL_law_669 : decode code 669 = .ok (.pop, 1) := by decide +kernel
theorem dL_law_670 : decode code 670 = .ok (.goto 580, 3) := by decide +kernel
theorem dL_law_673 : decode code 673 = .ok (.aload_n 1, 1) := by decide +kernel
theorem dL_law_674 : decode code 674 = .ok (.aload_n 0, 1) := by decide +kernel
theorem dL_law_675 : decode code 675 = .ok (.iload_n 3, 1) := by decide +kernel
theorem dL_law_676 : decode code 676 = .ok (.iconst 1, 1) := by decide +kernel
theorem dL_law_677 : decode code 677 = .ok (.iadd, 1) := by decide +kernel
theorem dL_law_678 : decode code 678 = .ok (.iaload, 1) := by decide +kernel
theorem dL_law_679 : decode code 679 = .ok (.invokevirtual 86, 3) := by decide +kernel
theorem dL_law_682 : decode code 682 = .ok (.pop, 1) := by decide +kernel
theorem dL_law_683 : decode code 683 = .ok (.aload_n 2, 1) := by decide +kernel
theorem dL_law_684 : decode code 684 = .ok (.aload_n 0, 1) := by decide +kernel
theorem dL_law_685 : decode code 685 = .ok (.iload_n 3, 1) := by decide +kernel
theorem dL_law_686 : decode code 686 = .ok (.iconst 1, 1) := by decide +kernel
theorem dL_law_687 : decode code 687 = .ok (.iadd, 1) := by decide +kernel
theorem dL_law_688 : decode code 688 = .ok (.iaload, 1) := by decide +kernel
theorem dL_law_689 : decode code 689 = .ok (.invokevirtual 89, 3) := by decide +kernel
theorem dL_law_692 : decode code 692 = .ok (.pop, 1) := by decide +kernel
theorem dL_law_693 : decode code 693 = .ok (.goto 557, 3) := by decide +kernel
theorem dL_law_696 : decode code 696 = .ok (.aload_n 1, 1) := by decide +kernel
theorem dL_law_697 : decode code 697 = .ok (.aload_n 0, 1) := by decide +kernel
theorem dL_law_698 : decode code 698 = .ok (.iload_n 3, 1) := by decide +kernel
theorem dL_law_699 : decode code 699 = .ok (.iconst 1, 1) := by decide +kernel
theorem dL_law_700 : decode code 700 = .ok (.iadd, 1) := by decide +kernel
theorem dL_law_701 : decode code 701 = .ok (.iaload, 1) := by decide +kernel
theorem dL_law_702 : decode code 702 = .ok (.invokevirtual 90, 3) := by decide +kernel
theorem dL_law_705 : decode code 705 = .ok (.pop, 1) := by decide +kernel
theorem dL_law_706 : decode code 706 = .ok (.aload_n 2, 1) := by decide +kernel
theorem dL_law_707 : decode code 707 = .ok (.aload_n 0, 1) := by decide +kernel
theorem dL_law_708 : decode code 708 = .ok (.iload_n 3, 1) := by decide +kernel
theorem dL_law_709 : decode code 709 = .ok (.iconst 1, 1) := by decide +kernel
theorem dL_law_710 : decode code 710 = .ok (.iadd, 1) := by decide +kernel
theorem dL_law_711 : decode code 711 = .ok (.iaload, 1) := by decide +kernel
theorem dL_law_712 : decode code 712 = .ok (.invokevirtual 93, 3) := by decide +kernel
theorem dL_law_715 : decode code 715 = .ok (.pop, 1) := by decide +kernel
theorem dL_law_716 : decode code 716 = .ok (.goto 534, 3) := by decide +kernel
theorem dL_law_719 : decode code 719 = .ok (.aload_n 1, 1) := by decide +kernel
theorem dL_law_720 : decode code 720 = .ok (.aload_n 0, 1) := by decide +kernel
theorem dL_law_721 : decode code 721 = .ok (.iload_n 3, 1) := by decide +kernel
theorem dL_law_722 : decode code 722 = .ok (.iconst 1, 1) := by decide +kernel
theorem dL_law_723 : decode code 723 = .ok (.iadd, 1) := by decide +kernel
theorem dL_law_724 : decode code 724 = .ok (.iaload, 1) := by decide +kernel
theorem dL_law_725 : decode code 725 = .ok (.invokevirtual 94, 3) := by decide +kernel
theorem dL_law_728 : decode code 728 = .ok (.pop, 1) := by decide +kernel
theorem dL_law_729 : decode code 729 = .ok (.aload_n 2, 1) := by decide +kernel
theorem dL_law_730 : decode code 730 = .ok (.aload_n 0, 1) := by decide +kernel
theorem dL_law_731 : decode code 731 = .ok (.iload_n 3, 1) := by decide +kernel
theorem dL_law_732 : decode code 732 = .ok (.iconst 1, 1) := by decide +kernel
theorem dL_law_733 : decode code 733 = .ok (.iadd, 1) := by decide +kernel
theorem dL_law_734 : decode code 734 = .ok (.iaload, 1) := by decide +kernel
theorem dL_law_735 : decode code 735 = .ok (.invokevirtual 97, 3) := by decide +kernel
theorem dL_law_738 : decode code 738 = .ok (.pop, 1) := by decide +kernel
theorem dL_law_739 : decode code 739 = .ok (.goto 511, 3) := by decide +kernel
theorem dL_law_742 : decode code 742 = .ok (.aload_n 1, 1) := by decide +kernel
theorem dL_law_743 : decode code 743 = .ok (.aload_n 0, 1) := by decide +kernel
theorem dL_law_744 : decode code 744 = .ok (.iload_n 3, 1) := by decide +kernel
theorem dL_law_745 : decode code 745 = .ok (.iconst 1, 1) := by decide +kernel
theorem dL_law_746 : decode code 746 = .ok (.iadd, 1) := by decide +kernel
theorem dL_law_747 : decode code 747 = .ok (.iaload, 1) := by decide +kernel
theorem dL_law_748 : decode code 748 = .ok (.aload_n 0, 1) := by decide +kernel
theorem dL_law_749 : decode code 749 = .ok (.iload_n 3, 1) := by decide +kernel
theorem dL_law_750 : decode code 750 = .ok (.iconst 2, 1) := by decide +kernel
theorem dL_law_751 : decode code 751 = .ok (.iadd, 1) := by decide +kernel
theorem dL_law_752 : decode code 752 = .ok (.iaload, 1) := by decide +kernel
theorem dL_law_753 : decode code 753 = .ok (.aload_n 0, 1) := by decide +kernel
theorem dL_law_754 : decode code 754 = .ok (.iload_n 3, 1) := by decide +kernel
theorem dL_law_755 : decode code 755 = .ok (.iconst 3, 1) := by decide +kernel
theorem dL_law_756 : decode code 756 = .ok (.iadd, 1) := by decide +kernel
theorem dL_law_757 : decode code 757 = .ok (.iaload, 1) := by decide +kernel
theorem dL_law_758 : decode code 758 = .ok (.invokevirtual 98, 3) := by decide +kernel
theorem dL_law_761 : decode code 761 = .ok (.pop, 1) := by decide +kernel
theorem dL_law_762 : decode code 762 = .ok (.aload_n 2, 1) := by decide +kernel
theorem dL_law_763 : decode code 763 = .ok (.aload_n 0, 1) := by decide +kernel
theorem dL_law_764 : decode code 764 = .ok (.iload_n 3, 1) := by decide +kernel
theorem dL_law_765 : decode code 765 = .ok (.iconst 1, 1) := by decide +kernel
theorem dL_law_766 : decode code 766 = .ok (.iadd, 1) := by decide +kernel
theorem dL_law_767 : decode code 767 = .ok (.iaload, 1) := by decide +kernel
theorem dL_law_768 : decode code 768 = .ok (.aload_n 0, 1) := by decide +kernel
theorem dL_law_769 : decode code 769 = .ok (.iload_n 3, 1) := by decide +kernel
theorem dL_law_770 : decode code 770 = .ok (.iconst 2, 1) := by decide +kernel
theorem dL_law_771 : decode code 771 = .ok (.iadd, 1) := by decide +kernel
theorem dL_law_772 : decode code 772 = .ok (.iaload, 1) := by decide +kernel
theorem dL_law_773 : decode code 773 = .ok (.aload_n 0, 1) := by decide +kernel
theorem dL_law_774 : decode code 774 = .ok (.iload_n 3, 1) := by decide +kernel
theorem dL_law_775 : decode code 775 = .ok (.iconst 3, 1) := by decide +kernel
theorem dL_law_776 : decode code 776 = .ok (.iadd, 1) := by decide +kernel
theorem dL_law_777 : decode code 777 = .ok (.iaload, 1) := by decide +kernel
theorem dL_law_778 : decode code 778 = .ok (.invokevirtual 101, 3) := by decide +kernel
theorem dL_law_781 : decode code 781 = .ok (.pop, 1) := by decide +kernel
theorem dL_law_782 : decode code 782 = .ok (.goto 468, 3) := by decide +kernel
theorem dL_law_785 : decode code 785 = .ok (.aload_n 1, 1) := by decide +kernel
theorem dL_law_786 : decode code 786 = .ok (.aload_n 0, 1) := by decide +kernel
theorem dL_law_787 : decode code 787 = .ok (.iload_n 3, 1) := by decide +kernel
theorem dL_law_788 : decode code 788 = .ok (.iconst 1, 1) := by decide +kernel
theorem dL_law_789 : decode code 789 = .ok (.iadd, 1) := by decide +kernel
theorem dL_law_790 : decode code 790 = .ok (.iaload, 1) := by decide +kernel
theorem dL_law_791 : decode code 791 = .ok (.aload_n 0, 1) := by decide +kernel
theorem dL_law_792 : decode code 792 = .ok (.iload_n 3, 1) := by decide +kernel
theorem dL_law_793 : decode code 793 = .ok (.iconst 2, 1) := by decide +kernel
theorem dL_law_794 : decode code 794 = .ok (.iadd, 1) := by decide +kernel
theorem dL_law_795 : decode code 795 = .ok (.iaload, 1) := by decide +kernel
theorem dL_law_796 : decode code 796 = .ok (.aload_n 0, 1) := by decide +kernel
theorem dL_law_797 : decode code 797 = .ok (.iload_n 3, 1) := by decide +kernel
theorem dL_law_798 : decode code 798 = .ok (.iconst 3, 1) := by decide +kernel
theorem dL_law_799 : decode code 799 = .ok (.iadd, 1) := by decide +kernel
theorem dL_law_800 : decode code 800 = .ok (.iaload, 1) := by decide +kernel
theorem dL_law_801 : decode code 801 = .ok (.invokevirtual 102, 3) := by decide +kernel
theorem dL_law_804 : decode code 804 = .ok (.pop, 1) := by decide +kernel
theorem dL_law_805 : decode code 805 = .ok (.aload_n 2, 1) := by decide +kernel
theorem dL_law_806 : decode code 806 = .ok (.aload_n 0, 1) := by decide +kernel
theorem dL_law_807 : decode code 807 = .ok (.iload_n 3, 1) := by decide +kernel
theorem dL_law_808 : decode code 808 = .ok (.iconst 1, 1) := by decide +kernel
theorem dL_law_809 : decode code 809 = .ok (.iadd, 1) := by decide +kernel
theorem dL_law_810 : decode code 810 = .ok (.iaload, 1) := by decide +kernel
theorem dL_law_811 : decode code 811 = .ok (.aload_n 0, 1) := by decide +kernel
theorem dL_law_812 : decode code 812 = .ok (.iload_n 3, 1) := by decide +kernel
theorem dL_law_813 : decode code 813 = .ok (.iconst 2, 1) := by decide +kernel
theorem dL_law_814 : decode code 814 = .ok (.iadd, 1) := by decide +kernel
theorem dL_law_815 : decode code 815 = .ok (.iaload, 1) := by decide +kernel
theorem dL_law_816 : decode code 816 = .ok (.aload_n 0, 1) := by decide +kernel
theorem dL_law_817 : decode code 817 = .ok (.iload_n 3, 1) := by decide +kernel
theorem dL_law_818 : decode code 818 = .ok (.iconst 3, 1) := by decide +kernel
theorem dL_law_819 : decode code 819 = .ok (.iadd, 1) := by decide +kernel
theorem dL_law_820 : decode code 820 = .ok (.iaload, 1) := by decide +kernel
theorem dL_law_821 : decode code 821 = .ok (.invokevirtual 105, 3) := by decide +kernel
theorem dL_law_824 : decode code 824 = .ok (.pop, 1) := by decide +kernel
theorem dL_law_825 : decode code 825 = .ok (.goto 425, 3) := by decide +kernel
theorem dL_law_828 : decode code 828 = .ok (.aload_n 1, 1) := by decide +kernel
theorem dL_law_829 : decode code 829 = .ok (.aload_n 0, 1) := by decide +kernel
theorem dL_law_830 : decode code 830 = .ok (.iload_n 3, 1) := by decide +kernel
theorem dL_law_831 : decode code 831 = .ok (.iconst 1, 1) := by decide +kernel
theorem dL_law_832 : decode code 832 = .ok (.iadd, 1) := by decide +kernel
theorem dL_law_833 : decode code 833 = .ok (.iaload, 1) := by decide +kernel
theorem dL_law_834 : decode code 834 = .ok (.invokevirtual 106, 3) := by decide +kernel
theorem dL_law_837 : decode code 837 = .ok (.pop, 1) := by decide +kernel
theorem dL_law_838 : decode code 838 = .ok (.aload_n 2, 1) := by decide +kernel
theorem dL_law_839 : decode code 839 = .ok (.aload_n 0, 1) := by decide +kernel
theorem dL_law_840 : decode code 840 = .ok (.iload_n 3, 1) := by decide +kernel
theorem dL_law_841 : decode code 841 = .ok (.iconst 1, 1) := by decide +kernel
theorem dL_law_842 : decode code 842 = .ok (.iadd, 1) := by decide +kernel
theorem dL_law_843 : decode code 843 = .ok (.iaload, 1) := by decide +kernel
theorem dL_law_844 : decode code 844 = .ok (.invokevirtual 109, 3) := by decide +kernel
theorem dL_law_847 : decode code 847 = .ok (.pop, 1) := by decide +kernel
theorem dL_law_848 : decode code 848 = .ok (.goto 402, 3) := by decide +kernel
theorem dL_law_851 : decode code 851 = .ok (.aload_n 1, 1) := by decide +kernel
theorem dL_law_852 : decode code 852 = .ok (.aload_n 0, 1) := by decide +kernel
theorem dL_law_853 : decode code 853 = .ok (.iload_n 3, 1) := by decide +kernel
theorem dL_law_854 : decode code 854 = .ok (.iconst 1, 1) := by decide +kernel
theorem dL_law_855 : decode code 855 = .ok (.iadd, 1) := by decide +kernel
theorem dL_law_856 : decode code 856 = .ok (.iaload, 1) := by decide +kernel
theorem dL_law_857 : decode code 857 = .ok (.invokevirtual 110, 3) := by decide +kernel
theorem dL_law_860 : decode code 860 = .ok (.pop, 1) := by decide +kernel
theorem dL_law_861 : decode code 861 = .ok (.aload_n 2, 1) := by decide +kernel
theorem dL_law_862 : decode code 862 = .ok (.aload_n 0, 1) := by decide +kernel
theorem dL_law_863 : decode code 863 = .ok (.iload_n 3, 1) := by decide +kernel
theorem dL_law_864 : decode code 864 = .ok (.iconst 1, 1) := by decide +kernel
theorem dL_law_865 : decode code 865 = .ok (.iadd, 1) := by decide +kernel
theorem dL_law_866 : decode code 866 = .ok (.iaload, 1) := by decide +kernel
theorem dL_law_867 : decode code 867 = .ok (.invokevirtual 113, 3) := by decide +kernel
theorem dL_law_870 : decode code 870 = .ok (.pop, 1) := by decide +kernel
theorem dL_law_871 : decode code 871 = .ok (.goto 379, 3) := by decide +kernel
theorem dL_law_874 : decode code 874 = .ok (.aload_n 1, 1) := by decide +kernel
theorem dL_law_875 : decode code 875 = .ok (.aload_n 0, 1) := by decide +kernel
theorem dL_law_876 : decode code 876 = .ok (.iload_n 3, 1) := by decide +kernel
theorem dL_law_877 : decode code 877 = .ok (.iconst 1, 1) := by decide +kernel
theorem dL_law_878 : decode code 878 = .ok (.iadd, 1) := by decide +kernel
theorem dL_law_879 : decode code 879 = .ok (.iaload, 1) := by decide +kernel
theorem dL_law_880 : decode code 880 = .ok (.invokevirtual 114, 3) := by decide +kernel
theorem dL_law_883 : decode code 883 = .ok (.pop, 1) := by decide +kernel
theorem dL_law_884 : decode code 884 = .ok (.aload_n 2, 1) := by decide +kernel
theorem dL_law_885 : decode code 885 = .ok (.aload_n 0, 1) := by decide +kernel
theorem dL_law_886 : decode code 886 = .ok (.iload_n 3, 1) := by decide +kernel
theorem dL_law_887 : decode code 887 = .ok (.iconst 1, 1) := by decide +kernel
theorem dL_law_888 : decode code 888 = .ok (.iadd, 1) := by decide +kernel
theorem dL_law_889 : decode code 889 = .ok (.iaload, 1) := by decide +kernel
theorem dL_law_890 : decode code 890 = .ok (.invokevirtual 117, 3) := by decide +kernel
theorem dL_law_893 : decode code 893 = .ok (.pop, 1) := by decide +kernel
theorem dL_law_894 : decode code 894 = .ok (.goto 356, 3) := by decide +kernel
theorem dL_law_897 : decode code 897 = .ok (.aload_n 1, 1) := by decide +kernel
theorem dL_law_898 : decode code 898 = .ok (.aload_n 0, 1) := by decide +kernel
theorem dL_law_899 : decode code 899 = .ok (.iload_n 3, 1) := by decide +kernel
theorem dL_law_900 : decode code 900 = .ok (.iconst 1, 1) := by decide +kernel
theorem dL_law_901 : decode code 901 = .ok (.iadd, 1) := by decide +kernel
theorem dL_law_902 : decode code 902 = .ok (.iaload, 1) := by decide +kernel
theorem dL_law_903 : decode code 903 = .ok (.aload_n 0, 1) := by decide +kernel
theorem dL_law_904 : decode code 904 = .ok (.iload_n 3, 1) := by decide +kernel
theorem dL_law_905 : decode code 905 = .ok (.iconst 2, 1) := by decide +kernel
theorem dL_law_906 : decode code 906 = .ok (.iadd, 1) := by decide +kernel
theorem dL_law_907 : decode code 907 = .ok (.iaload, 1) := by decide +kernel
theorem dL_law_908 : decode code 908 = .ok (.aload_n 0, 1) := by decide +kernel
theorem dL_law_909 : decode code 909 = .ok (.iload_n 3, 1) := by decide +kernel
theorem dL_law_910 : decode code 910 = .ok (.iconst 3, 1) := by decide +kernel
theorem dL_law_911 : decode code 911 = .ok (.iadd, 1) := by decide +kernel
theorem dL_law_912 : decode code 912 = .ok (.iaload, 1) := by decide +kernel
theorem dL_law_913 : decode code 913 = .ok (.aload_n 0, 1) := by decide +kernel
theorem dL_law_914 : decode code 914 = .ok (.iload_n 3, 1) := by decide +kernel
theorem dL_law_915 : decode code 915 = .ok (.iconst 4, 1) := by decide +kernel
theorem dL_law_916 : decode code 916 = .ok (.iadd, 1) := by decide +kernel
theorem dL_law_917 : decode code 917 = .ok (.iaload, 1) := by decide +kernel
theorem dL_law_918 : decode code 918 = .ok (.invokevirtual 118, 3) := by decide +kernel
theorem dL_law_921 : decode code 921 = .ok (.pop, 1) := by decide +kernel
theorem dL_law_922 : decode code 922 = .ok (.aload_n 2, 1) := by decide +kernel
theorem dL_law_923 : decode code 923 = .ok (.aload_n 0, 1) := by decide +kernel
theorem dL_law_924 : decode code 924 = .ok (.iload_n 3, 1) := by decide +kernel
theorem dL_law_925 : decode code 925 = .ok (.iconst 1, 1) := by decide +kernel
theorem dL_law_926 : decode code 926 = .ok (.iadd, 1) := by decide +kernel
theorem dL_law_927 : decode code 927 = .ok (.iaload, 1) := by decide +kernel
theorem dL_law_928 : decode code 928 = .ok (.aload_n 0, 1) := by decide +kernel
theorem dL_law_929 : decode code 929 = .ok (.iload_n 3, 1) := by decide +kernel
theorem dL_law_930 : decode code 930 = .ok (.iconst 2, 1) := by decide +kernel
theorem dL_law_931 : decode code 931 = .ok (.iadd, 1) := by decide +kernel
theorem dL_law_932 : decode code 932 = .ok (.iaload, 1) := by decide +kernel
theorem dL_law_933 : decode code 933 = .ok (.aload_n 0, 1) := by decide +kernel
theorem dL_law_934 : decode code 934 = .ok (.iload_n 3, 1) := by decide +kernel
theorem dL_law_935 : decode code 935 = .ok (.iconst 3, 1) := by decide +kernel
theorem dL_law_936 : decode code 936 = .ok (.iadd, 1) := by decide +kernel
theorem dL_law_937 : decode code 937 = .ok (.iaload, 1) := by decide +kernel
theorem dL_law_938 : decode code 938 = .ok (.aload_n 0, 1) := by decide +kernel
theorem dL_law_939 : decode code 939 = .ok (.iload_n 3, 1) := by decide +kernel
theorem dL_law_940 : decode code 940 = .ok (.iconst 4, 1) := by decide +kernel
theorem dL_law_941 : decode code 941 = .ok (.iadd, 1) := by decide +kernel
theorem dL_law_942 : decode code 942 = .ok (.iaload, 1) := by decide +kernel
theorem dL_law_943 : decode code 943 = .ok (.invokevirtual 122, 3) := by decide +kernel
theorem dL_law_946 : decode code 946 = .ok (.pop, 1) := by decide +kernel
theorem dL_law_947 : decode code 947 = .ok (.goto 303, 3) := by decide +kernel
theorem dL_law_950 : decode code 950 = .ok (.aload_n 1, 1) := by decide +kernel
theorem dL_law_951 : decode code 951 = .ok (.aload_n 0, 1) := by decide +kernel
theorem dL_law_952 : decode code 952 = .ok (.iload_n 3, 1) := by decide +kernel
theorem dL_law_953 : decode code 953 = .ok (.iconst 1, 1) := by decide +kernel
theorem dL_law_954 : decode code 954 = .ok (.iadd, 1) := by decide +kernel
theorem dL_law_955 : decode code 955 = .ok (.iaload, 1) := by decide +kernel
theorem dL_law_956 : decode code 956 = .ok (.invokevirtual 123, 3) := by decide +kernel
theorem dL_law_959 : decode code 959 = .ok (.pop, 1) := by decide +kernel
theorem dL_law_960 : decode code 960 = .ok (.aload_n 2, 1) := by decide +kernel
theorem dL_law_961 : decode code 961 = .ok (.aload_n 0, 1) := by decide +kernel
theorem dL_law_962 : decode code 962 = .ok (.iload_n 3, 1) := by decide +kernel
theorem dL_law_963 : decode code 963 = .ok (.iconst 1, 1) := by decide +kernel
theorem dL_law_964 : decode code 964 = .ok (.iadd, 1) := by decide +kernel
theorem dL_law_965 : decode code 965 = .ok (.iaload, 1) := by decide +kernel
theorem dL_law_966 : decode code 966 = .ok (.invokevirtual 126, 3) := by decide +kernel
theorem dL_law_969 : decode code 969 = .ok (.pop, 1) := by decide +kernel
theorem dL_law_970 : decode code 970 = .ok (.goto 280, 3) := by decide +kernel
theorem dL_law_973 : decode code 973 = .ok (.aload_n 1, 1) := by decide +kernel
theorem dL_law_974 : decode code 974 = .ok (.aload_n 0, 1) := by decide +kernel
theorem dL_law_975 : decode code 975 = .ok (.iload_n 3, 1) := by decide +kernel
theorem dL_law_976 : decode code 976 = .ok (.iconst 1, 1) := by decide +kernel
theorem dL_law_977 : decode code 977 = .ok (.iadd, 1) := by decide +kernel
theorem dL_law_978 : decode code 978 = .ok (.iaload, 1) := by decide +kernel
theorem dL_law_979 : decode code 979 = .ok (.aload_n 0, 1) := by decide +kernel
theorem dL_law_980 : decode code 980 = .ok (.iload_n 3, 1) := by decide +kernel
theorem dL_law_981 : decode code 981 = .ok (.iconst 2, 1) := by decide +kernel
theorem dL_law_982 : decode code 982 = .ok (.iadd, 1) := by decide +kernel
theorem dL_law_983 : decode code 983 = .ok (.iaload, 1) := by decide +kernel
theorem dL_law_984 : decode code 984 = .ok (.invokevirtual 127, 3) := by decide +kernel
theorem dL_law_987 : decode code 987 = .ok (.pop, 1) := by decide +kernel
theorem dL_law_988 : decode code 988 = .ok (.aload_n 2, 1) := by decide +kernel
theorem dL_law_989 : decode code 989 = .ok (.aload_n 0, 1) := by decide +kernel
theorem dL_law_990 : decode code 990 = .ok (.iload_n 3, 1) := by decide +kernel
theorem dL_law_991 : decode code 991 = .ok (.iconst 1, 1) := by decide +kernel
theorem dL_law_992 : decode code 992 = .ok (.iadd, 1) := by decide +kernel
theorem dL_law_993 : decode code 993 = .ok (.iaload, 1) := by decide +kernel
theorem dL_law_994 : decode code 994 = .ok (.aload_n 0, 1) := by decide +kernel
theorem dL_law_995 : decode code 995 = .ok (.iload_n 3, 1) := by decide +kernel
theorem dL_law_996 : decode code 996 = .ok (.iconst 2, 1) := by decide +kernel
theorem dL_law_997 : decode code 997 = .ok (.iadd, 1) := by decide +kernel
theorem dL_law_998 : decode code 998 = .ok (.iaload, 1) := by decide +kernel
theorem dL_law_999 : decode code 999 = .ok (.invokevirtual 130, 3) := by decide +kernel
theorem dL_law_1002 : decode code 1002 = .ok (.pop, 1) := by decide +kernel
theorem dL_law_1003 : decode code 1003 = .ok (.goto 247, 3) := by decide +kernel
theorem dL_law_1006 : decode code 1006 = .ok (.aload_n 1, 1) := by decide +kernel
theorem dL_law_1007 : decode code 1007 = .ok (.aload_n 0, 1) := by decide +kernel
theorem dL_law_1008 : decode code 1008 = .ok (.iload_n 3, 1) := by decide +kernel
theorem dL_law_1009 : decode code 1009 = .ok (.iconst 1, 1) := by decide +kernel
theorem dL_law_1010 : decode code 1010 = .ok (.iadd, 1) := by decide +kernel
theorem dL_law_1011 : decode code 1011 = .ok (.iaload, 1) := by decide +kernel
theorem dL_law_1012 : decode code 1012 = .ok (.aload_n 0, 1) := by decide +kernel
theorem dL_law_1013 : decode code 1013 = .ok (.iload_n 3, 1) := by decide +kernel
theorem dL_law_1014 : decode code 1014 = .ok (.iconst 2, 1) := by decide +kernel
theorem dL_law_1015 : decode code 1015 = .ok (.iadd, 1) := by decide +kernel
theorem dL_law_1016 : decode code 1016 = .ok (.iaload, 1) := by decide +kernel
theorem dL_law_1017 : decode code 1017 = .ok (.aload_n 0, 1) := by decide +kernel
theorem dL_law_1018 : decode code 1018 = .ok (.iload_n 3, 1) := by decide +kernel
theorem dL_law_1019 : decode code 1019 = .ok (.iconst 3, 1) := by decide +kernel
theorem dL_law_1020 : decode code 1020 = .ok (.iadd, 1) := by decide +kernel
theorem dL_law_1021 : decode code 1021 = .ok (.iaload, 1) := by decide +kernel
theorem dL_law_1022 : decode code 1022 = .ok (.invokevirtual 131, 3) := by decide +kernel
theorem dL_law_1025 : decode code 1025 = .ok (.pop, 1) := by decide +kernel
theorem dL_law_1026 : decode code 1026 = .ok (.aload_n 2, 1) := by decide +kernel
theorem dL_law_1027 : decode code 1027 = .ok (.aload_n 0, 1) := by decide +kernel
theorem dL_law_1028 : decode code 1028 = .ok (.iload_n 3, 1) := by decide +kernel
theorem dL_law_1029 : decode code 1029 = .ok (.iconst 1, 1) := by decide +kernel
theorem dL_law_1030 : decode code 1030 = .ok (.iadd, 1) := by decide +kernel
theorem dL_law_1031 : decode code 1031 = .ok (.iaload, 1) := by decide +kernel
theorem dL_law_1032 : decode code 1032 = .ok (.aload_n 0, 1) := by decide +kernel
theorem dL_law_1033 : decode code 1033 = .ok (.iload_n 3, 1) := by decide +kernel
theorem dL_law_1034 : decode code 1034 = .ok (.iconst 2, 1) := by decide +kernel
theorem dL_law_1035 : decode code 1035 = .ok (.iadd, 1) := by decide +kernel
theorem dL_law_1036 : decode code 1036 = .ok (.iaload, 1) := by decide +kernel
theorem dL_law_1037 : decode code 1037 = .ok (.aload_n 0, 1) := by decide +kernel
theorem dL_law_1038 : decode code 1038 = .ok (.iload_n 3, 1) := by decide +kernel
theorem dL_law_1039 : decode code 1039 = .ok (.iconst 3, 1) := by decide +kernel
theorem dL_law_1040 : decode code 1040 = .ok (.iadd, 1) := by decide +kernel
theorem dL_law_1041 : decode code 1041 = .ok (.iaload, 1) := by decide +kernel
theorem dL_law_1042 : decode code 1042 = .ok (.invokevirtual 134, 3) := by decide +kernel
theorem dL_law_1045 : decode code 1045 = .ok (.pop, 1) := by decide +kernel
theorem dL_law_1046 : decode code 1046 = .ok (.goto 204, 3) := by decide +kernel
theorem dL_law_1049 : decode code 1049 = .ok (.aload_n 1, 1) := by decide +kernel
theorem dL_law_1050 : decode code 1050 = .ok (.aload_n 0, 1) := by decide +kernel
theorem dL_law_1051 : decode code 1051 = .ok (.iload_n 3, 1) := by decide +kernel
theorem dL_law_1052 : decode code 1052 = .ok (.iconst 1, 1) := by decide +kernel
theorem dL_law_1053 : decode code 1053 = .ok (.iadd, 1) := by decide +kernel
theorem dL_law_1054 : decode code 1054 = .ok (.iaload, 1) := by decide +kernel
theorem dL_law_1055 : decode code 1055 = .ok (.invokevirtual 135, 3) := by decide +kernel
theorem dL_law_1058 : decode code 1058 = .ok (.pop, 1) := by decide +kernel
theorem dL_law_1059 : decode code 1059 = .ok (.aload_n 2, 1) := by decide +kernel
theorem dL_law_1060 : decode code 1060 = .ok (.aload_n 0, 1) := by decide +kernel
theorem dL_law_1061 : decode code 1061 = .ok (.iload_n 3, 1) := by decide +kernel
theorem dL_law_1062 : decode code 1062 = .ok (.iconst 1, 1) := by decide +kernel
theorem dL_law_1063 : decode code 1063 = .ok (.iadd, 1) := by decide +kernel
theorem dL_law_1064 : decode code 1064 = .ok (.iaload, 1) := by decide +kernel
theorem dL_law_1065 : decode code 1065 = .ok (.invokevirtual 138, 3) := by decide +kernel
theorem dL_law_1068 : decode code 1068 = .ok (.pop, 1) := by decide +kernel
theorem dL_law_1069 : decode code 1069 = .ok (.goto 181, 3) := by decide +kernel
theorem dL_law_1072 : decode code 1072 = .ok (.aload_n 1, 1) := by decide +kernel
theorem dL_law_1073 : decode code 1073 = .ok (.aload_n 0, 1) := by decide +kernel
theorem dL_law_1074 : decode code 1074 = .ok (.iload_n 3, 1) := by decide +kernel
theorem dL_law_1075 : decode code 1075 = .ok (.iconst 1, 1) := by decide +kernel
theorem dL_law_1076 : decode code 1076 = .ok (.iadd, 1) := by decide +kernel
theorem dL_law_1077 : decode code 1077 = .ok (.iaload, 1) := by decide +kernel
theorem dL_law_1078 : decode code 1078 = .ok (.aload_n 0, 1) := by decide +kernel
theorem dL_law_1079 : decode code 1079 = .ok (.iload_n 3, 1) := by decide +kernel
theorem dL_law_1080 : decode code 1080 = .ok (.iconst 2, 1) := by decide +kernel
theorem dL_law_1081 : decode code 1081 = .ok (.iadd, 1) := by decide +kernel
theorem dL_law_1082 : decode code 1082 = .ok (.iaload, 1) := by decide +kernel
theorem dL_law_1083 : decode code 1083 = .ok (.invokevirtual 139, 3) := by decide +kernel
theorem dL_law_1086 : decode code 1086 = .ok (.pop, 1) := by decide +kernel
theorem dL_law_1087 : decode code 1087 = .ok (.aload_n 2, 1) := by decide +kernel
theorem dL_law_1088 : decode code 1088 = .ok (.aload_n 0, 1) := by decide +kernel
theorem dL_law_1089 : decode code 1089 = .ok (.iload_n 3, 1) := by decide +kernel
theorem dL_law_1090 : decode code 1090 = .ok (.iconst 1, 1) := by decide +kernel
theorem dL_law_1091 : decode code 1091 = .ok (.iadd, 1) := by decide +kernel
theorem dL_law_1092 : decode code 1092 = .ok (.iaload, 1) := by decide +kernel
theorem dL_law_1093 : decode code 1093 = .ok (.aload_n 0, 1) := by decide +kernel
theorem dL_law_1094 : decode code 1094 = .ok (.iload_n 3, 1) := by decide +kernel
theorem dL_law_1095 : decode code 1095 = .ok (.iconst 2, 1) := by decide +kernel
theorem dL_law_1096 : decode code 1096 = .ok (.iadd, 1) := by decide +kernel
theorem dL_law_1097 : decode code 1097 = .ok (.iaload, 1) := by decide +kernel
theorem dL_law_1098 : decode code 1098 = .ok (.invokevirtual 142, 3) := by decide +kernel
theorem dL_law_1101 : decode code 1101 = .ok (.pop, 1) := by decide +kernel
theorem dL_law_1102 : decode code 1102 = .ok (.goto 148, 3) := by decide +kernel
theorem dL_law_1105 : decode code 1105 = .ok (.aload_n 1, 1) := by decide +kernel
theorem dL_law_1106 : decode code 1106 = .ok (.aload_n 0, 1) := by decide +kernel
theorem dL_law_1107 : decode code 1107 = .ok (.iload_n 3, 1) := by decide +kernel
theorem dL_law_1108 : decode code 1108 = .ok (.iconst 1, 1) := by decide +kernel
theorem dL_law_1109 : decode code 1109 = .ok (.iadd, 1) := by decide +kernel
theorem dL_law_1110 : decode code 1110 = .ok (.iaload, 1) := by decide +kernel
theorem dL_law_1111 : decode code 1111 = .ok (.invokevirtual 143, 3) := by decide +kernel
theorem dL_law_1114 : decode code 1114 = .ok (.aload_n 2, 1) := by decide +kernel
theorem dL_law_1115 : decode code 1115 = .ok (.aload_n 0, 1) := by decide +kernel
theorem dL_law_1116 : decode code 1116 = .ok (.iload_n 3, 1) := by decide +kernel
theorem dL_law_1117 : decode code 1117 = .ok (.iconst 1, 1) := by decide +kernel
theorem dL_law_1118 : decode code 1118 = .ok (.iadd, 1) := by decide +kernel
theorem dL_law_1119 : decode code 1119 = .ok (.iaload, 1) := by decide +kernel
theorem dL_law_1120 : decode code 1120 = .ok (.invokevirtual 146, 3) := by decide +kernel
theorem dL_law_1123 : decode code 1123 = .ok (.if_icmp .eq 127, 3) := by decide +kernel
theorem dL_law_1128 : decode code 1128 = .ok (.aload_n 1, 1) := by decide +kernel
theorem dL_law_1129 : decode code 1129 = .ok (.aload_n 0, 1) := by decide +kernel
theorem dL_law_1130 : decode code 1130 = .ok (.iload_n 3, 1) := by decide +kernel
theorem dL_law_1131 : decode code 1131 = .ok (.iconst 1, 1) := by decide +kernel
theorem dL_law_1132 : decode code 1132 = .ok (.iadd, 1) := by decide +kernel
theorem dL_law_1133 : decode code 1133 = .ok (.iaload, 1) := by decide +kernel
theorem dL_law_1134 : decode code 1134 = .ok (.aload_n 0, 1) := by decide +kernel
theorem dL_law_1135 : decode code 1135 = .ok (.iload_n 3, 1) := by decide +kernel
theorem dL_law_1136 : decode code 1136 = .ok (.iconst 2, 1) := by decide +kernel
theorem dL_law_1137 : decode code 1137 = .ok (.iadd, 1) := by decide +kernel
theorem dL_law_1138 : decode code 1138 = .ok (.iaload, 1) := by decide +kernel
theorem dL_law_1139 : decode code 1139 = .ok (.aload_n 0, 1) := by decide +kernel
theorem dL_law_1140 : decode code 1140 = .ok (.iload_n 3, 1) := by decide +kernel
theorem dL_law_1141 : decode code 1141 = .ok (.iconst 3, 1) := by decide +kernel
theorem dL_law_1142 : decode code 1142 = .ok (.iadd, 1) := by decide +kernel
theorem dL_law_1143 : decode code 1143 = .ok (.iaload, 1) := by decide +kernel
theorem dL_law_1144 : decode code 1144 = .ok (.aload_n 0, 1) := by decide +kernel
theorem dL_law_1145 : decode code 1145 = .ok (.iload_n 3, 1) := by decide +kernel
theorem dL_law_1146 : decode code 1146 = .ok (.iconst 4, 1) := by decide +kernel
theorem dL_law_1147 : decode code 1147 = .ok (.iadd, 1) := by decide +kernel
theorem dL_law_1148 : decode code 1148 = .ok (.iaload, 1) := by decide +kernel
theorem dL_law_1149 : decode code 1149 = .ok (.invokevirtual 147, 3) := by decide +kernel
theorem dL_law_1152 : decode code 1152 = .ok (.pop, 1) := by decide +kernel
theorem dL_law_1153 : decode code 1153 = .ok (.aload_n 2, 1) := by decide +kernel
theorem dL_law_1154 : decode code 1154 = .ok (.aload_n 0, 1) := by decide +kernel
theorem dL_law_1155 : decode code 1155 = .ok (.iload_n 3, 1) := by decide +kernel
theorem dL_law_1156 : decode code 1156 = .ok (.iconst 1, 1) := by decide +kernel
theorem dL_law_1157 : decode code 1157 = .ok (.iadd, 1) := by decide +kernel
theorem dL_law_1158 : decode code 1158 = .ok (.iaload, 1) := by decide +kernel
theorem dL_law_1159 : decode code 1159 = .ok (.aload_n 0, 1) := by decide +kernel
theorem dL_law_1160 : decode code 1160 = .ok (.iload_n 3, 1) := by decide +kernel
theorem dL_law_1161 : decode code 1161 = .ok (.iconst 2, 1) := by decide +kernel
theorem dL_law_1162 : decode code 1162 = .ok (.iadd, 1) := by decide +kernel
theorem dL_law_1163 : decode code 1163 = .ok (.iaload, 1) := by decide +kernel
theorem dL_law_1164 : decode code 1164 = .ok (.aload_n 0, 1) := by decide +kernel
theorem dL_law_1165 : decode code 1165 = .ok (.iload_n 3, 1) := by decide +kernel
theorem dL_law_1166 : decode code 1166 = .ok (.iconst 3, 1) := by decide +kernel
theorem dL_law_1167 : decode code 1167 = .ok (.iadd, 1) := by decide +kernel
theorem dL_law_1168 : decode code 1168 = .ok (.iaload, 1) := by decide +kernel
theorem dL_law_1169 : decode code 1169 = .ok (.aload_n 0, 1) := by decide +kernel
theorem dL_law_1170 : decode code 1170 = .ok (.iload_n 3, 1) := by decide +kernel
theorem dL_law_1171 : decode code 1171 = .ok (.iconst 4, 1) := by decide +kernel
theorem dL_law_1172 : decode code 1172 = .ok (.iadd, 1) := by decide +kernel
theorem dL_law_1173 : decode code 1173 = .ok (.iaload, 1) := by decide +kernel
theorem dL_law_1174 : decode code 1174 = .ok (.invokevirtual 150, 3) := by decide +kernel
theorem dL_law_1177 : decode code 1177 = .ok (.pop, 1) := by decide +kernel
theorem dL_law_1178 : decode code 1178 = .ok (.goto 72, 3) := by decide +kernel
theorem dL_law_1181 : decode code 1181 = .ok (.aload_n 1, 1) := by decide +kernel
theorem dL_law_1182 : decode code 1182 = .ok (.aload_n 0, 1) := by decide +kernel
theorem dL_law_1183 : decode code 1183 = .ok (.iload_n 3, 1) := by decide +kernel
theorem dL_law_1184 : decode code 1184 = .ok (.iconst 1, 1) := by decide +kernel
theorem dL_law_1185 : decode code 1185 = .ok (.iadd, 1) := by decide +kernel
theorem dL_law_1186 : decode code 1186 = .ok (.iaload, 1) := by decide +kernel
theorem dL_law_1187 : decode code 1187 = .ok (.invokevirtual 151, 3) := by decide +kernel
theorem dL_law_1190 : decode code 1190 = .ok (.pop, 1) := by decide +kernel
theorem dL_law_1191 : decode code 1191 = .ok (.aload_n 2, 1) := by decide +kernel
theorem dL_law_1192 : decode code 1192 = .ok (.aload_n 0, 1) := by decide +kernel
theorem dL_law_1193 : decode code 1193 = .ok (.iload_n 3, 1) := by decide +kernel
theorem dL_law_1194 : decode code 1194 = .ok (.iconst 1, 1) := by decide +kernel
theorem dL_law_1195 : decode code 1195 = .ok (.iadd, 1) := by decide +kernel
theorem dL_law_1196 : decode code 1196 = .ok (.iaload, 1) := by decide +kernel
theorem dL_law_1197 : decode code 1197 = .ok (.invokevirtual 154, 3) := by decide +kernel
theorem dL_law_1200 : decode code 1200 = .ok (.pop, 1) := by decide +kernel
theorem dL_law_1201 : decode code 1201 = .ok (.goto 49, 3) := by decide +kernel
theorem dL_law_1204 : decode code 1204 = .ok (.aload_n 1, 1) := by decide +kernel
theorem dL_law_1205 : decode code 1205 = .ok (.aload_n 0, 1) := by decide +kernel
theorem dL_law_1206 : decode code 1206 = .ok (.iload_n 3, 1) := by decide +kernel
theorem dL_law_1207 : decode code 1207 = .ok (.iconst 1, 1) := by decide +kernel
theorem dL_law_1208 : decode code 1208 = .ok (.iadd, 1) := by decide +kernel
theorem dL_law_1209 : decode code 1209 = .ok (.iaload, 1) := by decide +kernel
theorem dL_law_1210 : decode code 1210 = .ok (.invokevirtual 155, 3) := by decide +kernel
theorem dL_law_1213 : decode code 1213 = .ok (.pop, 1) := by decide +kernel
theorem dL_law_1214 : decode code 1214 = .ok (.aload_n 2, 1) := by decide +kernel
theorem dL_law_1215 : decode code 1215 = .ok (.aload_n 0, 1) := by decide +kernel
theorem dL_law_1216 : decode code 1216 = .ok (.iload_n 3, 1) := by decide +kernel
theorem dL_law_1217 : decode code 1217 = .ok (.iconst 1, 1) := by decide +kernel
theorem dL_law_1218 : decode code 1218 = .ok (.iadd, 1) := by decide +kernel
theorem dL_law_1219 : decode code 1219 = .ok (.iaload, 1) := by decide +kernel
theorem dL_law_1220 : decode code 1220 = .ok (.invokevirtual 158, 3) := by decide +kernel
theorem dL_law_1223 : decode code 1223 = .ok (.pop, 1) := by decide +kernel
theorem dL_law_1224 : decode code 1224 = .ok (.goto 26, 3) := by decide +kernel
theorem dL_law_1227 : decode code 1227 = .ok (.aload_n 1, 1) := by decide +kernel
theorem dL_law_1228 : decode code 1228 = .ok (.aload_n 0, 1) := by decide +kernel
theorem dL_law_1229 : decode code 1229 = .ok (.iload_n 3, 1) := by decide +kernel
theorem dL_law_1230 : decode code 1230 = .ok (.iconst 1, 1) := by decide +kernel
theorem dL_law_1231 : decode code 1231 = .ok (.iadd, 1) := by decide +kernel
theorem dL_law_1232 : decode code 1232 = .ok (.iaload, 1) := by decide +kernel
theorem dL_law_1233 : decode code 1233 = .ok (.invokevirtual 159, 3) := by decide +kernel
theorem dL_law_1236 : decode code 1236 = .ok (.pop, 1) := by decide +kernel
theorem dL_law_1237 : decode code 1237 = .ok (.aload_n 2, 1) := by decide +kernel
theorem dL_law_1238 : decode code 1238 = .ok (.aload_n 0, 1) := by decide +kernel
theorem dL_law_1239 : decode code 1239 = .ok (.iload_n 3, 1) := by decide +kernel
theorem dL_law_1240 : decode code 1240 = .ok (.iconst 1, 1) := by decide +kernel
theorem dL_law_1241 : decode code 1241 = .ok (.iadd, 1) := by decide +kernel
theorem dL_law_1242 : decode code 1242 = .ok (.iaload, 1) := by decide +kernel
theorem dL_law_1243 : decode code 1243 = .ok (.invokevirtual 162, 3) := by decide +kernel
theorem dL_law_1246 : decode code 1246 = .ok (.pop, 1) := by decide +kernel
theorem dL_law_1247 : decode code 1247 = .ok (.goto 3, 3) := by decide +kernel
theorem hd_X10_ahead : yX10_ahead.cls ≠ "java/lang/invoke/MethodHandle" ∧ yX10_ahead.cls ≠ "java/lang/invoke/VarHandle" ∧ (parseMethodDescriptor yX10_ahead.desc).map (fun d => d.parameters.length) = some 3 := ⟨by decide +kernel, by decide +kernel, by decide +kernel⟩
theorem hd_X10_back : yX10_back.cls ≠ "java/lang/invoke/MethodHandle" ∧ yX10_back.cls ≠ "java/lang/invoke/VarHandle" ∧ (parseMethodDescriptor yX10_back.desc).map (fun d => d.parameters.length) = some 1 := ⟨by decide +kernel, by decide +kernel, by decide +kernel⟩
theorem hd_X10_bait : yX10_bait.cls ≠ "java/lang/invoke/MethodHandle" ∧ yX10_bait.cls ≠ "java/lang/invoke/VarHandle" ∧ (parseMethodDescriptor yX10_bait.desc).map (fun d => d.parameters.length) = some 2 := ⟨by decide +kernel, by decide +kernel, by decide +kernel⟩
theorem hd_X10_best : yX10_best.cls ≠ "java/lang/invoke/MethodHandle" ∧ yX10_best.cls ≠ "java/lang/invoke/VarHandle" ∧ (parseMethodDescriptor yX10_best.desc).map (fun d => d.parameters.length) = some 3 := ⟨by decide +kernel, by decide +kernel, by decide +kernel⟩
theorem hd_X10_calm : yX10_calm.cls ≠ "java/lang/invoke/MethodHandle" ∧ yX10_calm.cls ≠ "java/lang/invoke/VarHandle" ∧ (parseMethodDescriptor yX10_calm.desc).map (fun d => d.parameters.length) = some 2 := ⟨by decide +kernel, by decide +kernel, by decide +kernel⟩
theorem hd_X10_count : yX10_count.cls ≠ "java/lang/invoke/MethodHandle" ∧ yX10_count.cls ≠ "java/lang/invoke/VarHandle" ∧ (parseMethodDescriptor yX10_count.desc).map (fun d => d.parameters.length) = some 1 := ⟨by decide +kernel, by decide +kernel, by decide +kernel⟩
theorem hd_X10_cover : yX10_cover.cls ≠ "java/lang/invoke/MethodHandle" ∧ yX10_cover.cls ≠ "java/lang/invoke/VarHandle" ∧ (parseMethodDescriptor yX10_cover.desc).map (fun d => d.parameters.length) = some 1 := ⟨by decide +kernel, by decide +kernel, by decide +kernel⟩
theorem hd_X10_end : yX10_end.cls ≠ "java/lang/invoke/MethodHandle" ∧ yX10_end.cls ≠ "java/lang/invoke/VarHandle" ∧ (parseMethodDescriptor yX10_end.desc).map (fun d => d.parameters.length) = some 1 := ⟨by decide +kernel, by decide +kernel, by decide +kernel⟩
theorem hd_X10_far : yX10_far.cls ≠ "java/lang/invoke/MethodHandle" ∧ yX10_far.cls ≠ "java/lang/invoke/VarHandle" ∧ (parseMethodDescriptor yX10_far.desc).map (fun d => d.parameters.length) = some 1 := ⟨by decide +kernel, by decide +kernel, by decide +kernel⟩
theorem hd_X10_feed : yX10_feed.cls ≠ "java/lang/invoke/MethodHandle" ∧ yX10_feed.cls ≠ "java/lang/invoke/VarHandle" ∧ (parseMethodDescriptor yX10_feed.desc).map (fun d => d.parameters.length) = some 5 := ⟨by decide +kernel, by decide +kernel, by decide +kernel⟩
theorem hd_X10_first : yX10_first.cls ≠ "java/lang/invoke/MethodHandle" ∧ yX10_first.cls ≠ "java/lang/invoke/VarHandle" ∧ (parseMethodDescriptor yX10_first.desc).map (fun d => d.parameters.length) = some 1 := ⟨by decide +kernel, by decide +kernel, by decide +kernel⟩
theorem hd_X10_force : yX10_force.cls ≠ "java/lang/invoke/MethodHandle" ∧ yX10_force.cls ≠ "java/lang/invoke/VarHandle" ∧ (parseMethodDescriptor yX10_force.desc).map (fun d => d.parameters.length) = some 1 := ⟨by decide +kernel, by decide +kernel, by decide +kernel⟩
theorem hd_X10_had : yX10_had.cls ≠ "java/lang/invoke/MethodHandle" ∧ yX10_had.cls ≠ "java/lang/invoke/VarHandle" ∧ (parseMethodDescriptor yX10_had.desc).map (fun d => d.parameters.length) = some 2 := ⟨by decide +kernel, by decide +kernel, by decide +kernel⟩
theorem hd_X10_hearts : yX10_hearts.cls ≠ "java/lang/invoke/MethodHandle" ∧ yX10_hearts.cls ≠ "java/lang/invoke/VarHandle" ∧ (parseMethodDescriptor yX10_hearts.desc).map (fun d => d.parameters.length) = some 1 := ⟨by decide +kernel, by decide +kernel, by decide +kernel⟩
theorem hd_X10_image : yX10_image.cls ≠ "java/lang/invoke/MethodHandle" ∧ yX10_image.cls ≠ "java/lang/invoke/VarHandle" ∧ (parseMethodDescriptor yX10_image.desc).map (fun d => d.parameters.length) = some 1 := ⟨by decide +kernel, by decide +kernel, by decide +kernel⟩
theorem hd_X10_kind : yX10_kind.cls ≠ "java/lang/invoke/MethodHandle" ∧ yX10_kind.cls ≠ "java/lang/invoke/VarHandle" ∧ (parseMethodDescriptor yX10_kind.desc).map (fun d => d.parameters.length) = some 3 := ⟨by decide +kernel, by decide +kernel, by decide +kernel⟩
theorem hd_X10_look : yX10_look.cls ≠ "java/lang/invoke/MethodHandle" ∧ yX10_look.cls ≠ "java/lang/invoke/VarHandle" ∧ (parseMethodDescriptor yX10_look.desc).map (fun d => d.parameters.length) = some 2 := ⟨by decide +kernel, by decide +kernel, by decide +kernel⟩
theorem hd_X10_lure : yX10_lure.cls ≠ "java/lang/invoke/MethodHandle" ∧ yX10_lure.cls ≠ "java/lang/invoke/VarHandle" ∧ (parseMethodDescriptor yX10_lure.desc).map (fun d => d.parameters.length) = some 2 := ⟨by decide +kernel, by decide +kernel, by decide +kernel⟩
theorem hd_X10_move : yX10_move.cls ≠ "java/lang/invoke/MethodHandle" ∧ yX10_move.cls ≠ "java/lang/invoke/VarHandle" ∧ (parseMethodDescriptor yX10_move.desc).map (fun d => d.parameters.length) = some 2 := ⟨by decide +kernel, by decide +kernel, by decide +kernel⟩
theorem hd_X10_nights : yX10_nights.cls ≠ "java/lang/invoke/MethodHandle" ∧ yX10_nights.cls ≠ "java/lang/invoke/VarHandle" ∧ (parseMethodDescriptor yX10_nights.desc).map (fun d => d.parameters.length) = some 4 := ⟨by decide +kernel, by decide +kernel, by decide +kernel⟩
theorem hd_X10_note : yX10_note.cls ≠ "java/lang/invoke/MethodHandle" ∧ yX10_note.cls ≠ "java/lang/invoke/VarHandle" ∧ (parseMethodDescriptor yX10_note.desc).map (fun d => d.parameters.length) = some 3 := ⟨by decide +kernel, by decide +kernel, by decide +kernel⟩
theorem hd_X10_pence : yX10_pence.cls ≠ "java/lang/invoke/MethodHandle" ∧ yX10_pence.cls ≠ "java/lang/invoke/VarHandle" ∧ (parseMethodDescriptor yX10_pence.desc).map (fun d => d.parameters.length) = some 2 := ⟨by decide +kernel, by decide +kernel, by decide +kernel⟩
theorem hd_X10_rests : yX10_rests.cls ≠ "java/lang/invoke/MethodHandle" ∧ yX10_rests.cls ≠ "java/lang/invoke/VarHandle" ∧ (parseMethodDescriptor yX10_rests.desc).map (fun d => d.parameters.length) = some 4 := ⟨by decide +kernel, by decide +kernel, by decide +kernel⟩
theorem hd_X10_ring : yX10_ring.cls ≠ "java/lang/invoke/MethodHandle" ∧ yX10_ring.cls ≠ "java/lang/invoke/VarHandle" ∧ (parseMethodDescriptor yX10_ring.desc).map (fun d => d.parameters.length) = some 1 := ⟨by decide +kernel, by decide +kernel, by decide +kernel⟩
theorem hd_X10_rule : yX10_rule.cls ≠ "java/lang/invoke/MethodHandle" ∧ yX10_rule.cls ≠ "java/lang/invoke/VarHandle" ∧ (parseMethodDescriptor yX10_rule.desc).map (fun d => d.parameters.length) = some 0 := ⟨by decide +kernel, by decide +kernel, by decide +kernel⟩
theorem hd_X10_ruled : yX10_ruled.cls ≠ "java/lang/invoke/MethodHandle" ∧ yX10_ruled.cls ≠ "java/lang/invoke/VarHandle" ∧ (parseMethodDescriptor yX10_ruled.desc).map (fun d => d.parameters.length) = some 1 := ⟨by decide +kernel, by decide +kernel, by decide +kernel⟩
theorem hd_X10_safe : yX10_safe.cls ≠ "java/lang/invoke/MethodHandle" ∧ yX10_safe.cls ≠ "java/lang/invoke/VarHandle" ∧ (parseMethodDescriptor yX10_safe.desc).map (fun d => d.parameters.length) = some 1 := ⟨by decide +kernel, by decide +kernel, by decide +kernel⟩
theorem hd_X10_seed : yX10_seed.cls ≠ "java/lang/invoke/MethodHandle" ∧ yX10_seed.cls ≠ "java/lang/invoke/VarHandle" ∧ (parseMethodDescriptor yX10_seed.desc).map (fun d => d.parameters.length) = some 1 := ⟨by decide +kernel, by decide +kernel, by decide +kernel⟩
theorem hd_X10_set : yX10_set.cls ≠ "java/lang/invoke/MethodHandle" ∧ yX10_set.cls ≠ "java/lang/invoke/VarHandle" ∧ (parseMethodDescriptor yX10_set.desc).map (fun d => d.parameters.length) = some 2 := ⟨by decide +kernel, by decide +kernel, by decide +kernel⟩
theorem hd_X10_step : yX10_step.cls ≠ "java/lang/invoke/MethodHandle" ∧ yX10_step.cls ≠ "java/lang/invoke/VarHandle" ∧ (parseMethodDescriptor yX10_step.desc).map (fun d => d.parameters.length) = some 0 := ⟨by decide +kernel, by decide +kernel, by decide +kernel⟩
theorem hd_X10_stuck : yX10_stuck.cls ≠ "java/lang/invoke/MethodHandle" ∧ yX10_stuck.cls ≠ "java/lang/invoke/VarHandle" ∧ (parseMethodDescriptor yX10_stuck.desc).map (fun d => d.parameters.length) = some 1 := ⟨by decide +kernel, by decide +kernel, by decide +kernel⟩
theorem hd_X10_town : yX10_town.cls ≠ "java/lang/invoke/MethodHandle" ∧ yX10_town.cls ≠ "java/lang/invoke/VarHandle" ∧ (parseMethodDescriptor yX10_town.desc).map (fun d => d.parameters.length) = some 0 := ⟨by decide +kernel, by decide +kernel, by decide +kernel⟩
theorem hd_X10_undo : yX10_undo.cls ≠ "java/lang/invoke/MethodHandle" ∧ yX10_undo.cls ≠ "java/lang/invoke/VarHandle" ∧ (parseMethodDescriptor yX10_undo.desc).map (fun d => d.parameters.length) = some 0 := ⟨by decide +kernel, by decide +kernel, by decide +kernel⟩
theorem hd_X10_walker : yX10_walker.cls ≠ "java/lang/invoke/MethodHandle" ∧ yX10_walker.cls ≠ "java/lang/invoke/VarHandle" ∧ (parseMethodDescriptor yX10_walker.desc).map (fun d => d.parameters.length) = some 2 := ⟨by decide +kernel, by decide +kernel, by decide +kernel⟩
theorem hd_X10_waries : yX10_waries.cls ≠ "java/lang/invoke/MethodHandle" ∧ yX10_waries.cls ≠ "java/lang/invoke/VarHandle" ∧ (parseMethodDescriptor yX10_waries.desc).map (fun d => d.parameters.length) = some 1 := ⟨by decide +kernel, by decide +kernel, by decide +kernel⟩
theorem hd_X10_ways : yX10_ways.cls ≠ "java/lang/invoke/MethodHandle" ∧ yX10_ways.cls ≠ "java/lang/invoke/VarHandle" ∧ (parseMethodDescriptor yX10_ways.desc).map (fun d => d.parameters.length) = some 1 := ⟨by decide +kernel, by decide +kernel, by decide +kernel⟩
theorem hd_X11_ahead : yX11_ahead.cls ≠ "java/lang/invoke/MethodHandle" ∧ yX11_ahead.cls ≠ "java/lang/invoke/VarHandle" ∧ (parseMethodDescriptor yX11_ahead.desc).map (fun d => d.parameters.length) = some 3 := ⟨by decide +kernel, by decide +kernel, by decide +kernel⟩
theorem hd_X11_back : yX11_back.cls ≠ "java/lang/invoke/MethodHandle" ∧ yX11_back.cls ≠ "java/lang/invoke/VarHandle" ∧ (parseMethodDescriptor yX11_back.desc).map (fun d => d.parameters.length) = some 1 := ⟨by decide +kernel, by decide +kernel, by decide +kernel⟩
theorem hd_X11_bait : yX11_bait.cls ≠ "java/lang/invoke/MethodHandle" ∧ yX11_bait.cls ≠ "java/lang/invoke/VarHandle" ∧ (parseMethodDescriptor yX11_bait.desc).map (fun d => d.parameters.length) = some 2 := ⟨by decide +kernel, by decide +kernel, by decide +kernel⟩
theorem hd_X11_best : yX11_best.cls ≠ "java/lang/invoke/MethodHandle" ∧ yX11_best.cls ≠ "java/lang/invoke/VarHandle" ∧ (parseMethodDescriptor yX11_best.desc).map (fun d => d.parameters.length) = some 3 := ⟨by decide +kernel, by decide +kernel, by decide +kernel⟩
theorem hd_X11_calm : yX11_calm.cls ≠ "java/lang/invoke/MethodHandle" ∧ yX11_calm.cls ≠ "java/lang/invoke/VarHandle" ∧ (parseMethodDescriptor yX11_calm.desc).map (fun d => d.parameters.length) = some 2 := ⟨by decide +kernel, by decide +kernel, by decide +kernel⟩
theorem hd_X11_count : yX11_count.cls ≠ "java/lang/invoke/MethodHandle" ∧ yX11_count.cls ≠ "java/lang/invoke/VarHandle" ∧ (parseMethodDescriptor yX11_count.desc).map (fun d => d.parameters.length) = some 1 := ⟨by decide +kernel, by decide +kernel, by decide +kernel⟩
theorem hd_X11_cover : yX11_cover.cls ≠ "java/lang/invoke/MethodHandle" ∧ yX11_cover.cls ≠ "java/lang/invoke/VarHandle" ∧ (parseMethodDescriptor yX11_cover.desc).map (fun d => d.parameters.length) = some 1 := ⟨by decide +kernel, by decide +kernel, by decide +kernel⟩
theorem hd_X11_end : yX11_end.cls ≠ "java/lang/invoke/MethodHandle" ∧ yX11_end.cls ≠ "java/lang/invoke/VarHandle" ∧ (parseMethodDescriptor yX11_end.desc).map (fun d => d.parameters.length) = some 1 := ⟨by decide +kernel, by decide +kernel, by decide +kernel⟩
theorem hd_X11_far : yX11_far.cls ≠ "java/lang/invoke/MethodHandle" ∧ yX11_far.cls ≠ "java/lang/invoke/VarHandle" ∧ (parseMethodDescriptor yX11_far.desc).map (fun d => d.parameters.length) = some 1 := ⟨by decide +kernel, by decide +kernel, by decide +kernel⟩
theorem hd_X11_feed : yX11_feed.cls ≠ "java/lang/invoke/MethodHandle" ∧ yX11_feed.cls ≠ "java/lang/invoke/VarHandle" ∧ (parseMethodDescriptor yX11_feed.desc).map (fun d => d.parameters.length) = some 5 := ⟨by decide +kernel, by decide +kernel, by decide +kernel⟩
theorem hd_X11_first : yX11_first.cls ≠ "java/lang/invoke/MethodHandle" ∧ yX11_first.cls ≠ "java/lang/invoke/VarHandle" ∧ (parseMethodDescriptor yX11_first.desc).map (fun d => d.parameters.length) = some 1 := ⟨by decide +kernel, by decide +kernel, by decide +kernel⟩
theorem hd_X11_force : yX11_force.cls ≠ "java/lang/invoke/MethodHandle" ∧ yX11_force.cls ≠ "java/lang/invoke/VarHandle" ∧ (parseMethodDescriptor yX11_force.desc).map (fun d => d.parameters.length) = some 1 := ⟨by decide +kernel, by decide +kernel, by decide +kernel⟩
theorem hd_X11_had : yX11_had.cls ≠ "java/lang/invoke/MethodHandle" ∧ yX11_had.cls ≠ "java/lang/invoke/VarHandle" ∧ (parseMethodDescriptor yX11_had.desc).map (fun d => d.parameters.length) = some 2 := ⟨by decide +kernel, by decide +kernel, by decide +kernel⟩
theorem hd_X11_hearts : yX11_hearts.cls ≠ "java/lang/invoke/MethodHandle" ∧ yX11_hearts.cls ≠ "java/lang/invoke/VarHandle" ∧ (parseMethodDescriptor yX11_hearts.desc).map (fun d => d.parameters.length) = some 1 := ⟨by decide +kernel, by decide +kernel, by decide +kernel⟩
theorem hd_X11_image : yX11_image.cls ≠ "java/lang/invoke/MethodHandle" ∧ yX11_image.cls ≠ "java/lang/invoke/VarHandle" ∧ (parseMethodDescriptor yX11_image.desc).map (fun d => d.parameters.length) = some 1 := ⟨by decide +kernel, by decide +kernel, by decide +kernel⟩
theorem hd_X11_kind : yX11_kind.cls ≠ "java/lang/invoke/MethodHandle" ∧ yX11_kind.cls ≠ "java/lang/invoke/VarHandle" ∧ (parseMethodDescriptor yX11_kind.desc).map (fun d => d.parameters.length) = some 3 := ⟨by decide +kernel, by decide +kernel, by decide +kernel⟩
theorem hd_X11_look : yX11_look.cls ≠ "java/lang/invoke/MethodHandle" ∧ yX11_look.cls ≠ "java/lang/invoke/VarHandle" ∧ (parseMethodDescriptor yX11_look.desc).map (fun d => d.parameters.length) = some 2 := ⟨by decide +kernel, by decide +kernel, by decide +kernel⟩
theorem hd_X11_lure : yX11_lure.cls ≠ "java/lang/invoke/MethodHandle" ∧ yX11_lure.cls ≠ "java/lang/invoke/VarHandle" ∧ (parseMethodDescriptor yX11_lure.desc).map (fun d => d.parameters.length) = some 2 := ⟨by decide +kernel, by decide +kernel, by decide +kernel⟩
theorem hd_X11_move : yX11_move.cls ≠ "java/lang/invoke/MethodHandle" ∧ yX11_move.cls ≠ "java/lang/invoke/VarHandle" ∧ (parseMethodDescriptor yX11_move.desc).map (fun d => d.parameters.length) = some 2 := ⟨by decide +kernel, by decide +kernel, by decide +kernel⟩
theorem hd_X11_nights : yX11_nights.cls ≠ "java/lang/invoke/MethodHandle" ∧ yX11_nights.cls ≠ "java/lang/invoke/VarHandle" ∧ (parseMethodDescriptor yX11_nights.desc).map (fun d => d.parameters.length) = some 4 := ⟨by decide +kernel, by decide +kernel, by decide +kernel⟩
theorem hd_X11_note : yX11_note.cls ≠ "java/lang/invoke/MethodHandle" ∧ yX11_note.cls ≠ "java/lang/invoke/VarHandle" ∧ (parseMethodDescriptor yX11_note.desc).map (fun d => d.parameters.length) = some 3 := ⟨by decide +kernel, by decide +kernel, by decide +kernel⟩
theorem hd_X11_pence : yX11_pence.cls ≠ "java/lang/invoke/MethodHandle" ∧ yX11_pence.cls ≠ "java/lang/invoke/VarHandle" ∧ (parseMethodDescriptor yX11_pence.desc).map (fun d => d.parameters.length) = some 2 := ⟨by decide +kernel, by decide +kernel, by decide +kernel⟩
theorem hd_X11_rests : yX11_rests.cls ≠ "java/lang/invoke/MethodHandle" ∧ yX11_rests.cls ≠ "java/lang/invoke/VarHandle" ∧ (parseMethodDescriptor yX11_rests.desc).map (fun d => d.parameters.length) = some 4 := ⟨by decide +kernel, by decide +kernel, by decide +kernel⟩
theorem hd_X11_ring : yX11_ring.cls ≠ "java/lang/invoke/MethodHandle" ∧ yX11_ring.cls ≠ "java/lang/invoke/VarHandle" ∧ (parseMethodDescriptor yX11_ring.desc).map (fun d => d.parameters.length) = some 1 := ⟨by decide +kernel, by decide +kernel, by decide +kernel⟩
theorem hd_X11_rule : yX11_rule.cls ≠ "java/lang/invoke/MethodHandle" ∧ yX11_rule.cls ≠ "java/lang/invoke/VarHandle" ∧ (parseMethodDescriptor yX11_rule.desc).map (fun d => d.parameters.length) = some 0 := ⟨by decide +kernel, by decide +kernel, by decide +kernel⟩
theorem hd_X11_ruled : yX11_ruled.cls ≠ "java/lang/invoke/MethodHandle" ∧ yX11_ruled.cls ≠ "java/lang/invoke/VarHandle" ∧ (parseMethodDescriptor yX11_ruled.desc).map (fun d => d.parameters.length) = some 1 := ⟨by decide +kernel, by decide +kernel, by decide +kernel⟩
theorem hd_X11_safe : yX11_safe.cls ≠ "java/lang/invoke/MethodHandle" ∧ yX11_safe.cls ≠ "java/lang/invoke/VarHandle" ∧ (parseMethodDescriptor yX11_safe.desc).map (fun d => d.parameters.length) = some 1 := ⟨by decide +kernel, by decide +kernel, by decide +kernel⟩
theorem hd_X11_seed : yX11_seed.cls ≠ "java/lang/invoke/MethodHandle" ∧ yX11_seed.cls ≠ "java/lang/invoke/VarHandle" ∧ (parseMethodDescriptor yX11_seed.desc).map (fun d => d.parameters.length) = some 1 := ⟨by decide +kernel, by decide +kernel, by decide +kernel⟩
theorem hd_X11_set : yX11_set.cls ≠ "java/lang/invoke/MethodHandle" ∧ yX11_set.cls ≠ "java/lang/invoke/VarHandle" ∧ (parseMethodDescriptor yX11_set.desc).map (fun d => d.parameters.length) = some 2 := ⟨by decide +kernel, by decide +kernel, by decide +kernel⟩
theorem hd_X11_step : yX11_step.cls ≠ "java/lang/invoke/MethodHandle" ∧ yX11_step.cls ≠ "java/lang/invoke/VarHandle" ∧ (parseMethodDescriptor yX11_step.desc).map (fun d => d.parameters.length) = some 0 := ⟨by decide +kernel, by decide +kernel, by decide +kernel⟩
theorem hd_X11_stuck : yX11_stuck.cls ≠ "java/lang/invoke/MethodHandle" ∧ yX11_stuck.cls ≠ "java/lang/invoke/VarHandle" ∧ (parseMethodDescriptor yX11_stuck.desc).map (fun d => d.parameters.length) = some 1 := ⟨by decide +kernel, by decide +kernel, by decide +kernel⟩
theorem hd_X11_town : yX11_town.cls ≠ "java/lang/invoke/MethodHandle" ∧ yX11_town.cls ≠ "java/lang/invoke/VarHandle" ∧ (parseMethodDescriptor yX11_town.desc).map (fun d => d.parameters.length) = some 0 := ⟨by decide +kernel, by decide +kernel, by decide +kernel⟩
theorem hd_X11_undo : yX11_undo.cls ≠ "java/lang/invoke/MethodHandle" ∧ yX11_undo.cls ≠ "java/lang/invoke/VarHandle" ∧ (parseMethodDescriptor yX11_undo.desc).map (fun d => d.parameters.length) = some 0 := ⟨by decide +kernel, by decide +kernel, by decide +kernel⟩
theorem hd_X11_walker : yX11_walker.cls ≠ "java/lang/invoke/MethodHandle" ∧ yX11_walker.cls ≠ "java/lang/invoke/VarHandle" ∧ (parseMethodDescriptor yX11_walker.desc).map (fun d => d.parameters.length) = some 2 := ⟨by decide +kernel, by decide +kernel, by decide +kernel⟩
theorem hd_X11_waries : yX11_waries.cls ≠ "java/lang/invoke/MethodHandle" ∧ yX11_waries.cls ≠ "java/lang/invoke/VarHandle" ∧ (parseMethodDescriptor yX11_waries.desc).map (fun d => d.parameters.length) = some 1 := ⟨by decide +kernel, by decide +kernel, by decide +kernel⟩
theorem hd_X11_ways : yX11_ways.cls ≠ "java/lang/invoke/MethodHandle" ∧ yX11_ways.cls ≠ "java/lang/invoke/VarHandle" ∧ (parseMethodDescriptor yX11_ways.desc).map (fun d => d.parameters.length) = some 1 := ⟨by decide +kernel, by decide +kernel, by decide +kernel⟩
set_option maxHeartbeats 4000000 in
set_option maxRecDepth 100000 in
theorem law_feed {p : Program} {e : Env} {s : State} {m : MethodId} {below : List Frame} {meth : Method} {c : Code} (l : Launch) {b L : Nat} {xs : Nat → Int32} {D : va_G} {K : Nat → ClassId} {A : Nat → Prop} {ad : Nat → Nat} {z : TS} {v : Int32} (hL : L ≤ 3072) (E : mE p s m meth c code #[Value.ref b] 4 RL D K A) (hX : va_X b L xs s s.heap) (hbl : b < s.heap.size) (hbA : ¬ A b) (j : JJ z) (h0 : 0 ≤ v.toInt) (h6 : v.toInt + 6 ≤ (L : Int)) (KK : ∀ (z : TS) (H : Heap) (locs : List Loc) (ls : Array Slot), mG D A s H locs (wd K ad z) → JJ z → lv_has ls 4 [(3, .int v), (2, .ref (ad 386)), (1, .ref (ad 0)), (0, .ref b)] → W p l e room_1 s m #[Value.ref b] below meth c H locs 600000 7302250 (lw_Z below #[Value.ref b] s) (F0 m 1250 ls [])) {H : Heap} {locs : List Loc} {ls : Array Slot} (G : mG D A s H locs (wd K ad z)) (hl : lv_has ls 4 [(3, .int v), (2, .ref (ad 386)), (1, .ref (ad 0)), (0, .ref b)]) : W p l e room_1 s m #[Value.ref b] below meth c H locs 600000 7302250 (lw_Z below #[Value.ref b] s) (F0 m 192 ls []) := by
  refine lv_aload_n E.1 E.2.1 dL_law_192 rfl (lv_at hl 2 rfl) ?_
  refine lv_aload_n E.1 E.2.1 dL_law_193 rfl (lv_at hl 3 rfl) ?_
  refine lv_iload_n E.1 E.2.1 dL_law_194 rfl (lv_at hl 0 rfl) ?_
  refine lv_iconst (v := 1) E.1 E.2.1 dL_law_195 (by decide) ?_
  refine lv_iadd E.1 E.2.1 dL_law_196 ?_
  refine va_sld E.1 E.2.1 hX hbl hbA G.2.2 (law_in h0 h6 hL 1 (iv_lit 1 (by decide) (by decide))) dL_law_197 ?_
  refine lv_topi (fun x1 ex1 => ?_)
  refine lv_aload_n E.1 E.2.1 dL_law_198 rfl (lv_at hl 3 rfl) ?_
  refine lv_iload_n E.1 E.2.1 dL_law_199 rfl (lv_at hl 0 rfl) ?_
  refine lv_iconst (v := 2) E.1 E.2.1 dL_law_200 (by decide) ?_
  refine lv_iadd E.1 E.2.1 dL_law_201 ?_
  refine va_sld E.1 E.2.1 hX hbl hbA G.2.2 (law_in h0 h6 hL 2 (iv_lit 2 (by decide) (by decide))) dL_law_202 ?_
  refine lv_topi (fun x2 ex2 => ?_)
  refine lv_aload_n E.1 E.2.1 dL_law_203 rfl (lv_at hl 3 rfl) ?_
  refine lv_iload_n E.1 E.2.1 dL_law_204 rfl (lv_at hl 0 rfl) ?_
  refine lv_iconst (v := 3) E.1 E.2.1 dL_law_205 (by decide) ?_
  refine lv_iadd E.1 E.2.1 dL_law_206 ?_
  refine va_sld E.1 E.2.1 hX hbl hbA G.2.2 (law_in h0 h6 hL 3 (iv_lit 3 (by decide) (by decide))) dL_law_207 ?_
  refine lv_topi (fun x3 ex3 => ?_)
  refine lv_aload_n E.1 E.2.1 dL_law_208 rfl (lv_at hl 3 rfl) ?_
  refine lv_iload_n E.1 E.2.1 dL_law_209 rfl (lv_at hl 0 rfl) ?_
  refine lv_iconst (v := 4) E.1 E.2.1 dL_law_210 (by decide) ?_
  refine lv_iadd E.1 E.2.1 dL_law_211 ?_
  refine va_sld E.1 E.2.1 hX hbl hbA G.2.2 (law_in h0 h6 hL 4 (iv_lit 4 (by decide) (by decide))) dL_law_212 ?_
  refine lv_topi (fun x4 ex4 => ?_)
  refine lv_aload_n E.1 E.2.1 dL_law_213 rfl (lv_at hl 3 rfl) ?_
  refine lv_iload_n E.1 E.2.1 dL_law_214 rfl (lv_at hl 0 rfl) ?_
  refine lv_iconst (v := 5) E.1 E.2.1 dL_law_215 (by decide) ?_
  refine lv_iadd E.1 E.2.1 dL_law_216 ?_
  refine va_sld E.1 E.2.1 hX hbl hbA G.2.2 (law_in h0 h6 hL 5 (iv_lit 5 (by decide) (by decide))) dL_law_217 ?_
  refine lv_topi (fun x5 ex5 => ?_)
  refine l_vi E G hl (k_feed l D K ad z j.1 x1 x2 x3 x4 x5) 10 (rfl : ro 0 = 10) (by decide) rfl rfl 5 rfl mw_code_X10_feed mw_ini_10 mw_ml_L_13 mw_inst_X10_feed mw_sel_X10_feed hd_X10_feed ⟨by decide, by decide⟩ rfl rfl ⟨by decide, by decide⟩ rfl (Nat.le_of_ble_eq_true rfl) dL_law_218 (fun ra ua H locs hpa G => ?_)
  refine lv_pop E.1 E.2.1 dL_law_221 rfl ?_
  have ja : JJ ua := JJ.c j hpa.1 hpa.2
  refine lv_aload_n E.1 E.2.1 dL_law_222 rfl (lv_at hl 1 rfl) ?_
  refine lv_aload_n E.1 E.2.1 dL_law_223 rfl (lv_at hl 3 rfl) ?_
  refine lv_iload_n E.1 E.2.1 dL_law_224 rfl (lv_at hl 0 rfl) ?_
  refine lv_iconst (v := 1) E.1 E.2.1 dL_law_225 (by decide) ?_
  refine lv_iadd E.1 E.2.1 dL_law_226 ?_
  refine va_sld E.1 E.2.1 hX hbl hbA G.2.2 (law_in h0 h6 hL 1 (iv_lit 1 (by decide) (by decide))) dL_law_227 ?_
  refine m_ci x1 ex1.symm ?_
  refine lv_aload_n E.1 E.2.1 dL_law_228 rfl (lv_at hl 3 rfl) ?_
  refine lv_iload_n E.1 E.2.1 dL_law_229 rfl (lv_at hl 0 rfl) ?_
  refine lv_iconst (v := 2) E.1 E.2.1 dL_law_230 (by decide) ?_
  refine lv_iadd E.1 E.2.1 dL_law_231 ?_
  refine va_sld E.1 E.2.1 hX hbl hbA G.2.2 (law_in h0 h6 hL 2 (iv_lit 2 (by decide) (by decide))) dL_law_232 ?_
  refine m_ci x2 ex2.symm ?_
  refine lv_aload_n E.1 E.2.1 dL_law_233 rfl (lv_at hl 3 rfl) ?_
  refine lv_iload_n E.1 E.2.1 dL_law_234 rfl (lv_at hl 0 rfl) ?_
  refine lv_iconst (v := 3) E.1 E.2.1 dL_law_235 (by decide) ?_
  refine lv_iadd E.1 E.2.1 dL_law_236 ?_
  refine va_sld E.1 E.2.1 hX hbl hbA G.2.2 (law_in h0 h6 hL 3 (iv_lit 3 (by decide) (by decide))) dL_law_237 ?_
  refine m_ci x3 ex3.symm ?_
  refine lv_aload_n E.1 E.2.1 dL_law_238 rfl (lv_at hl 3 rfl) ?_
  refine lv_iload_n E.1 E.2.1 dL_law_239 rfl (lv_at hl 0 rfl) ?_
  refine lv_iconst (v := 4) E.1 E.2.1 dL_law_240 (by decide) ?_
  refine lv_iadd E.1 E.2.1 dL_law_241 ?_
  refine va_sld E.1 E.2.1 hX hbl hbA G.2.2 (law_in h0 h6 hL 4 (iv_lit 4 (by decide) (by decide))) dL_law_242 ?_
  refine m_ci x4 ex4.symm ?_
  refine lv_aload_n E.1 E.2.1 dL_law_243 rfl (lv_at hl 3 rfl) ?_
  refine lv_iload_n E.1 E.2.1 dL_law_244 rfl (lv_at hl 0 rfl) ?_
  refine lv_iconst (v := 5) E.1 E.2.1 dL_law_245 (by decide) ?_
  refine lv_iadd E.1 E.2.1 dL_law_246 ?_
  refine va_sld E.1 E.2.1 hX hbl hbA G.2.2 (law_in h0 h6 hL 5 (iv_lit 5 (by decide) (by decide))) dL_law_247 ?_
  refine m_ci x5 ex5.symm ?_
  refine l_vi E G hl (v_feed l D K ad ua ja.1 x1 x2 x3 x4 x5) 11 (rfl : ro 386 = 11) (by decide) rfl rfl 5 rfl mw_code_X11_feed mw_ini_11 mw_ml_L_17 mw_inst_X11_feed mw_sel_X11_feed hd_X11_feed ⟨by decide, by decide⟩ rfl rfl ⟨by decide, by decide⟩ rfl (Nat.le_of_ble_eq_true rfl) dL_law_248 (fun rb ub H locs hpb G => ?_)
  have jb : JJ ub := JJ.r ja hpb.1 (KE.r hpb.2) (wf_ka ja.2.1 hpb.2.2.1 rfl rfl rfl rfl)
  refine lv_pop E.1 E.2.1 dL_law_251 rfl ?_
  refine lv_goto (tgt := 1250) E.1 E.2.1 dL_law_252 (by decide) ?_
  exact KK _ _ _ _ G jb hl
set_option maxHeartbeats 4000000 in
set_option maxRecDepth 100000 in
theorem law_end {p : Program} {e : Env} {s : State} {m : MethodId} {below : List Frame} {meth : Method} {c : Code} (l : Launch) {b L : Nat} {xs : Nat → Int32} {D : va_G} {K : Nat → ClassId} {A : Nat → Prop} {ad : Nat → Nat} {z : TS} {v : Int32} (hL : L ≤ 3072) (E : mE p s m meth c code #[Value.ref b] 4 RL D K A) (hX : va_X b L xs s s.heap) (hbl : b < s.heap.size) (hbA : ¬ A b) (j : JJ z) (h0 : 0 ≤ v.toInt) (h6 : v.toInt + 6 ≤ (L : Int)) (KK : ∀ (z : TS) (H : Heap) (locs : List Loc) (ls : Array Slot), mG D A s H locs (wd K ad z) → JJ z → lv_has ls 4 [(3, .int v), (2, .ref (ad 386)), (1, .ref (ad 0)), (0, .ref b)] → W p l e room_1 s m #[Value.ref b] below meth c H locs 600000 7302250 (lw_Z below #[Value.ref b] s) (F0 m 1250 ls [])) {H : Heap} {locs : List Loc} {ls : Array Slot} (G : mG D A s H locs (wd K ad z)) (hl : lv_has ls 4 [(3, .int v), (2, .ref (ad 386)), (1, .ref (ad 0)), (0, .ref b)]) : W p l e room_1 s m #[Value.ref b] below meth c H locs 600000 7302250 (lw_Z below #[Value.ref b] s) (F0 m 255 ls []) := by
  refine lv_aload_n E.1 E.2.1 dL_law_255 rfl (lv_at hl 2 rfl) ?_
  refine lv_aload_n E.1 E.2.1 dL_law_256 rfl (lv_at hl 3 rfl) ?_
  refine lv_iload_n E.1 E.2.1 dL_law_257 rfl (lv_at hl 0 rfl) ?_
  refine lv_iconst (v := 1) E.1 E.2.1 dL_law_258 (by decide) ?_
  refine lv_iadd E.1 E.2.1 dL_law_259 ?_
  refine va_sld E.1 E.2.1 hX hbl hbA G.2.2 (law_in h0 h6 hL 1 (iv_lit 1 (by decide) (by decide))) dL_law_260 ?_
  refine lv_topi (fun x1 ex1 => ?_)
  refine l_vi E G hl (k_end l D K ad z j.1 x1) 10 (rfl : ro 0 = 10) (by decide) rfl rfl 1 rfl mw_code_X10_end mw_ini_10 mw_ml_L_18 mw_inst_X10_end mw_sel_X10_end hd_X10_end ⟨by decide, by decide⟩ rfl rfl ⟨by decide, by decide⟩ rfl (Nat.le_of_ble_eq_true rfl) dL_law_261 (fun ra ua H locs hpa G => ?_)
  refine lv_pop E.1 E.2.1 dL_law_264 rfl ?_
  have ja : JJ ua := JJ.c j hpa.1 hpa.2
  refine lv_aload_n E.1 E.2.1 dL_law_265 rfl (lv_at hl 1 rfl) ?_
  refine lv_aload_n E.1 E.2.1 dL_law_266 rfl (lv_at hl 3 rfl) ?_
  refine lv_iload_n E.1 E.2.1 dL_law_267 rfl (lv_at hl 0 rfl) ?_
  refine lv_iconst (v := 1) E.1 E.2.1 dL_law_268 (by decide) ?_
  refine lv_iadd E.1 E.2.1 dL_law_269 ?_
  refine va_sld E.1 E.2.1 hX hbl hbA G.2.2 (law_in h0 h6 hL 1 (iv_lit 1 (by decide) (by decide))) dL_law_270 ?_
  refine m_ci x1 ex1.symm ?_
  refine l_vi E G hl (v_end l D K ad ua ja.1 x1) 11 (rfl : ro 386 = 11) (by decide) rfl rfl 1 rfl mw_code_X11_end mw_ini_11 mw_ml_L_22 mw_inst_X11_end mw_sel_X11_end hd_X11_end ⟨by decide, by decide⟩ rfl rfl ⟨by decide, by decide⟩ rfl (Nat.le_of_ble_eq_true rfl) dL_law_271 (fun rb ub H locs hpb G => ?_)
  have jb : JJ ub := JJ.r ja hpb.1 (KE.r hpb.2) (wf_ka ja.2.1 hpb.2.2.1 rfl rfl rfl rfl)
  refine lv_pop E.1 E.2.1 dL_law_274 rfl ?_
  refine lv_goto (tgt := 1250) E.1 E.2.1 dL_law_275 (by decide) ?_
  exact KK _ _ _ _ G jb hl
set_option maxHeartbeats 4000000 in
set_option maxRecDepth 100000 in
theorem law_town {p : Program} {e : Env} {s : State} {m : MethodId} {below : List Frame} {meth : Method} {c : Code} (l : Launch) {b L : Nat} {xs : Nat → Int32} {D : va_G} {K : Nat → ClassId} {A : Nat → Prop} {ad : Nat → Nat} {z : TS} {v : Int32} (hL : L ≤ 3072) (E : mE p s m meth c code #[Value.ref b] 4 RL D K A) (hX : va_X b L xs s s.heap) (hbl : b < s.heap.size) (hbA : ¬ A b) (j : JJ z) (h0 : 0 ≤ v.toInt) (h6 : v.toInt + 6 ≤ (L : Int)) (KK : ∀ (z : TS) (H : Heap) (locs : List Loc) (ls : Array Slot), mG D A s H locs (wd K ad z) → JJ z → lv_has ls 4 [(3, .int v), (2, .ref (ad 386)), (1, .ref (ad 0)), (0, .ref b)] → W p l e room_1 s m #[Value.ref b] below meth c H locs 600000 7302250 (lw_Z below #[Value.ref b] s) (F0 m 1250 ls [])) {H : Heap} {locs : List Loc} {ls : Array Slot} (G : mG D A s H locs (wd K ad z)) (hl : lv_has ls 4 [(3, .int v), (2, .ref (ad 386)), (1, .ref (ad 0)), (0, .ref b)]) : W p l e room_1 s m #[Value.ref b] below meth c H locs 600000 7302250 (lw_Z below #[Value.ref b] s) (F0 m 278 ls []) := by
  refine lv_aload_n E.1 E.2.1 dL_law_278 rfl (lv_at hl 2 rfl) ?_
  refine l_vi E G hl (k_town l D K ad z j.1) 10 (rfl : ro 0 = 10) (by decide) rfl rfl 0 rfl mw_code_X10_town mw_ini_10 mw_ml_L_23 mw_inst_X10_town mw_sel_X10_town hd_X10_town ⟨by decide, by decide⟩ rfl rfl ⟨by decide, by decide⟩ rfl (Nat.le_of_ble_eq_true rfl) dL_law_279 (fun ra ua H locs hpa G => ?_)
  refine lv_pop E.1 E.2.1 dL_law_282 rfl ?_
  have ja : JJ ua := JJ.c j hpa.1 hpa.2
  refine lv_aload_n E.1 E.2.1 dL_law_283 rfl (lv_at hl 1 rfl) ?_
  refine l_vi E G hl (v_town l D K ad ua ja.1) 11 (rfl : ro 386 = 11) (by decide) rfl rfl 0 rfl mw_code_X11_town mw_ini_11 mw_ml_L_27 mw_inst_X11_town mw_sel_X11_town hd_X11_town ⟨by decide, by decide⟩ rfl rfl ⟨by decide, by decide⟩ rfl (Nat.le_of_ble_eq_true rfl) dL_law_284 (fun rb ub H locs hpb G => ?_)
  have jb : JJ ub := JJ.r ja hpb.1 (KTr.r hpb.2) (KTr.wf hpb.2 ja.2.1)
  refine lv_pop E.1 E.2.1 dL_law_287 rfl ?_
  refine lv_goto (tgt := 1250) E.1 E.2.1 dL_law_288 (by decide) ?_
  exact KK _ _ _ _ G jb hl
set_option maxHeartbeats 4000000 in
set_option maxRecDepth 100000 in
theorem law_rule {p : Program} {e : Env} {s : State} {m : MethodId} {below : List Frame} {meth : Method} {c : Code} (l : Launch) {b L : Nat} {xs : Nat → Int32} {D : va_G} {K : Nat → ClassId} {A : Nat → Prop} {ad : Nat → Nat} {z : TS} {v : Int32} (hL : L ≤ 3072) (E : mE p s m meth c code #[Value.ref b] 4 RL D K A) (hX : va_X b L xs s s.heap) (hbl : b < s.heap.size) (hbA : ¬ A b) (j : JJ z) (h0 : 0 ≤ v.toInt) (h6 : v.toInt + 6 ≤ (L : Int)) (KK : ∀ (z : TS) (H : Heap) (locs : List Loc) (ls : Array Slot), mG D A s H locs (wd K ad z) → JJ z → lv_has ls 4 [(3, .int v), (2, .ref (ad 386)), (1, .ref (ad 0)), (0, .ref b)] → W p l e room_1 s m #[Value.ref b] below meth c H locs 600000 7302250 (lw_Z below #[Value.ref b] s) (F0 m 1250 ls [])) {H : Heap} {locs : List Loc} {ls : Array Slot} (G : mG D A s H locs (wd K ad z)) (hl : lv_has ls 4 [(3, .int v), (2, .ref (ad 386)), (1, .ref (ad 0)), (0, .ref b)]) : W p l e room_1 s m #[Value.ref b] below meth c H locs 600000 7302250 (lw_Z below #[Value.ref b] s) (F0 m 291 ls []) := by
  refine lv_aload_n E.1 E.2.1 dL_law_291 rfl (lv_at hl 2 rfl) ?_
  refine l_vi E G hl (k_rule l D K ad z j.1) 10 (rfl : ro 0 = 10) (by decide) rfl rfl 0 rfl mw_code_X10_rule mw_ini_10 mw_ml_L_28 mw_inst_X10_rule mw_sel_X10_rule hd_X10_rule ⟨by decide, by decide⟩ rfl rfl ⟨by decide, by decide⟩ rfl (Nat.le_of_ble_eq_true rfl) dL_law_292 (fun ra ua H locs hpa G => ?_)
  refine lv_pop E.1 E.2.1 dL_law_295 rfl ?_
  have ja : JJ ua := JJ.c j hpa.1 hpa.2
  refine lv_aload_n E.1 E.2.1 dL_law_296 rfl (lv_at hl 1 rfl) ?_
  refine l_vi E G hl (v_rule l D K ad ua ja.1 ja.2.1) 11 (rfl : ro 386 = 11) (by decide) rfl rfl 0 rfl mw_code_X11_rule mw_ini_11 mw_ml_L_31 mw_inst_X11_rule mw_sel_X11_rule hd_X11_rule ⟨by decide, by decide⟩ rfl rfl ⟨by decide, by decide⟩ rfl (Nat.le_of_ble_eq_true rfl) dL_law_297 (fun rb ub H locs hpb G => ?_)
  have jb : JJ ub := JJ.r ja hpb.1 (KRu.r hpb.2.1) hpb.2.2
  refine lv_pop E.1 E.2.1 dL_law_300 rfl ?_
  refine lv_goto (tgt := 1250) E.1 E.2.1 dL_law_301 (by decide) ?_
  exact KK _ _ _ _ G jb hl
set_option maxHeartbeats 4000000 in
set_option maxRecDepth 100000 in
theorem law_force {p : Program} {e : Env} {s : State} {m : MethodId} {below : List Frame} {meth : Method} {c : Code} (l : Launch) {b L : Nat} {xs : Nat → Int32} {D : va_G} {K : Nat → ClassId} {A : Nat → Prop} {ad : Nat → Nat} {z : TS} {v : Int32} (hL : L ≤ 3072) (E : mE p s m meth c code #[Value.ref b] 4 RL D K A) (hX : va_X b L xs s s.heap) (hbl : b < s.heap.size) (hbA : ¬ A b) (j : JJ z) (h0 : 0 ≤ v.toInt) (h6 : v.toInt + 6 ≤ (L : Int)) (KK : ∀ (z : TS) (H : Heap) (locs : List Loc) (ls : Array Slot), mG D A s H locs (wd K ad z) → JJ z → lv_has ls 4 [(3, .int v), (2, .ref (ad 386)), (1, .ref (ad 0)), (0, .ref b)] → W p l e room_1 s m #[Value.ref b] below meth c H locs 600000 7302250 (lw_Z below #[Value.ref b] s) (F0 m 1250 ls [])) {H : Heap} {locs : List Loc} {ls : Array Slot} (G : mG D A s H locs (wd K ad z)) (hl : lv_has ls 4 [(3, .int v), (2, .ref (ad 386)), (1, .ref (ad 0)), (0, .ref b)]) : W p l e room_1 s m #[Value.ref b] below meth c H locs 600000 7302250 (lw_Z below #[Value.ref b] s) (F0 m 304 ls []) := by
  refine lv_aload_n E.1 E.2.1 dL_law_304 rfl (lv_at hl 2 rfl) ?_
  refine lv_aload_n E.1 E.2.1 dL_law_305 rfl (lv_at hl 3 rfl) ?_
  refine lv_iload_n E.1 E.2.1 dL_law_306 rfl (lv_at hl 0 rfl) ?_
  refine lv_iconst (v := 1) E.1 E.2.1 dL_law_307 (by decide) ?_
  refine lv_iadd E.1 E.2.1 dL_law_308 ?_
  refine va_sld E.1 E.2.1 hX hbl hbA G.2.2 (law_in h0 h6 hL 1 (iv_lit 1 (by decide) (by decide))) dL_law_309 ?_
  refine lv_topi (fun x1 ex1 => ?_)
  refine l_vi E G hl (k_force l D K ad z j.1 x1) 10 (rfl : ro 0 = 10) (by decide) rfl rfl 1 rfl mw_code_X10_force mw_ini_10 mw_ml_L_32 mw_inst_X10_force mw_sel_X10_force hd_X10_force ⟨by decide, by decide⟩ rfl rfl ⟨by decide, by decide⟩ rfl (Nat.le_of_ble_eq_true rfl) dL_law_310 (fun ra ua H locs hpa G => ?_)
  refine lv_pop E.1 E.2.1 dL_law_313 rfl ?_
  have ja : JJ ua := JJ.c j hpa.1 hpa.2
  refine lv_aload_n E.1 E.2.1 dL_law_314 rfl (lv_at hl 1 rfl) ?_
  refine lv_aload_n E.1 E.2.1 dL_law_315 rfl (lv_at hl 3 rfl) ?_
  refine lv_iload_n E.1 E.2.1 dL_law_316 rfl (lv_at hl 0 rfl) ?_
  refine lv_iconst (v := 1) E.1 E.2.1 dL_law_317 (by decide) ?_
  refine lv_iadd E.1 E.2.1 dL_law_318 ?_
  refine va_sld E.1 E.2.1 hX hbl hbA G.2.2 (law_in h0 h6 hL 1 (iv_lit 1 (by decide) (by decide))) dL_law_319 ?_
  refine m_ci x1 ex1.symm ?_
  refine l_vi E G hl (v_force l D K ad ua ja.1 x1) 11 (rfl : ro 386 = 11) (by decide) rfl rfl 1 rfl mw_code_X11_force mw_ini_11 mw_ml_L_35 mw_inst_X11_force mw_sel_X11_force hd_X11_force ⟨by decide, by decide⟩ rfl rfl ⟨by decide, by decide⟩ rfl (Nat.le_of_ble_eq_true rfl) dL_law_320 (fun rb ub H locs hpb G => ?_)
  have jb : JJ ub := JJ.r ja hpb.1 (KM.r hpb.2) (wf_ka ja.2.1 hpb.2.2.1 rfl rfl rfl rfl)
  refine lv_pop E.1 E.2.1 dL_law_323 rfl ?_
  refine lv_goto (tgt := 1250) E.1 E.2.1 dL_law_324 (by decide) ?_
  exact KK _ _ _ _ G jb hl
set_option maxHeartbeats 4000000 in
set_option maxRecDepth 100000 in
theorem law_lure {p : Program} {e : Env} {s : State} {m : MethodId} {below : List Frame} {meth : Method} {c : Code} (l : Launch) {b L : Nat} {xs : Nat → Int32} {D : va_G} {K : Nat → ClassId} {A : Nat → Prop} {ad : Nat → Nat} {z : TS} {v : Int32} (hL : L ≤ 3072) (E : mE p s m meth c code #[Value.ref b] 4 RL D K A) (hX : va_X b L xs s s.heap) (hbl : b < s.heap.size) (hbA : ¬ A b) (j : JJ z) (h0 : 0 ≤ v.toInt) (h6 : v.toInt + 6 ≤ (L : Int)) (KK : ∀ (z : TS) (H : Heap) (locs : List Loc) (ls : Array Slot), mG D A s H locs (wd K ad z) → JJ z → lv_has ls 4 [(3, .int v), (2, .ref (ad 386)), (1, .ref (ad 0)), (0, .ref b)] → W p l e room_1 s m #[Value.ref b] below meth c H locs 600000 7302250 (lw_Z below #[Value.ref b] s) (F0 m 1250 ls [])) {H : Heap} {locs : List Loc} {ls : Array Slot} (G : mG D A s H locs (wd K ad z)) (hl : lv_has ls 4 [(3, .int v), (2, .ref (ad 386)), (1, .ref (ad 0)), (0, .ref b)]) : W p l e room_1 s m #[Value.ref b] below meth c H locs 600000 7302250 (lw_Z below #[Value.ref b] s) (F0 m 327 ls []) := by
  refine lv_aload_n E.1 E.2.1 dL_law_327 rfl (lv_at hl 2 rfl) ?_
  refine lv_aload_n E.1 E.2.1 dL_law_328 rfl (lv_at hl 3 rfl) ?_
  refine lv_iload_n E.1 E.2.1 dL_law_329 rfl (lv_at hl 0 rfl) ?_
  refine lv_iconst (v := 1) E.1 E.2.1 dL_law_330 (by decide) ?_
  refine lv_iadd E.1 E.2.1 dL_law_331 ?_
  refine va_sld E.1 E.2.1 hX hbl hbA G.2.2 (law_in h0 h6 hL 1 (iv_lit 1 (by decide) (by decide))) dL_law_332 ?_
  refine lv_topi (fun x1 ex1 => ?_)
  refine lv_aload_n E.1 E.2.1 dL_law_333 rfl (lv_at hl 3 rfl) ?_
  refine lv_iload_n E.1 E.2.1 dL_law_334 rfl (lv_at hl 0 rfl) ?_
  refine lv_iconst (v := 2) E.1 E.2.1 dL_law_335 (by decide) ?_
  refine lv_iadd E.1 E.2.1 dL_law_336 ?_
  refine va_sld E.1 E.2.1 hX hbl hbA G.2.2 (law_in h0 h6 hL 2 (iv_lit 2 (by decide) (by decide))) dL_law_337 ?_
  refine lv_topi (fun x2 ex2 => ?_)
  refine l_vi E G hl (k_lure l D K ad z j.1 x1 x2) 10 (rfl : ro 0 = 10) (by decide) rfl rfl 2 rfl mw_code_X10_lure mw_ini_10 mw_ml_L_36 mw_inst_X10_lure mw_sel_X10_lure hd_X10_lure ⟨by decide, by decide⟩ rfl rfl ⟨by decide, by decide⟩ rfl (Nat.le_of_ble_eq_true rfl) dL_law_338 (fun ra ua H locs hpa G => ?_)
  refine lv_pop E.1 E.2.1 dL_law_341 rfl ?_
  rw [hpa] at G
  refine lv_aload_n E.1 E.2.1 dL_law_342 rfl (lv_at hl 1 rfl) ?_
  refine lv_aload_n E.1 E.2.1 dL_law_343 rfl (lv_at hl 3 rfl) ?_
  refine lv_iload_n E.1 E.2.1 dL_law_344 rfl (lv_at hl 0 rfl) ?_
  refine lv_iconst (v := 1) E.1 E.2.1 dL_law_345 (by decide) ?_
  refine lv_iadd E.1 E.2.1 dL_law_346 ?_
  refine va_sld E.1 E.2.1 hX hbl hbA G.2.2 (law_in h0 h6 hL 1 (iv_lit 1 (by decide) (by decide))) dL_law_347 ?_
  refine m_ci x1 ex1.symm ?_
  refine lv_aload_n E.1 E.2.1 dL_law_348 rfl (lv_at hl 3 rfl) ?_
  refine lv_iload_n E.1 E.2.1 dL_law_349 rfl (lv_at hl 0 rfl) ?_
  refine lv_iconst (v := 2) E.1 E.2.1 dL_law_350 (by decide) ?_
  refine lv_iadd E.1 E.2.1 dL_law_351 ?_
  refine va_sld E.1 E.2.1 hX hbl hbA G.2.2 (law_in h0 h6 hL 2 (iv_lit 2 (by decide) (by decide))) dL_law_352 ?_
  refine m_ci x2 ex2.symm ?_
  refine l_vi E G hl (v_lure l D K ad z j.1 x1 x2) 11 (rfl : ro 386 = 11) (by decide) rfl rfl 2 rfl mw_code_X11_lure mw_ini_11 mw_ml_L_40 mw_inst_X11_lure mw_sel_X11_lure hd_X11_lure ⟨by decide, by decide⟩ rfl rfl ⟨by decide, by decide⟩ rfl (Nat.le_of_ble_eq_true rfl) dL_law_353 (fun rb ub H locs hpb G => ?_)
  rw [hpb] at G
  refine lv_pop E.1 E.2.1 dL_law_356 rfl ?_
  refine lv_goto (tgt := 1250) E.1 E.2.1 dL_law_357 (by decide) ?_
  exact KK _ _ _ _ G j hl
set_option maxHeartbeats 4000000 in
set_option maxRecDepth 100000 in
theorem law_walker {p : Program} {e : Env} {s : State} {m : MethodId} {below : List Frame} {meth : Method} {c : Code} (l : Launch) {b L : Nat} {xs : Nat → Int32} {D : va_G} {K : Nat → ClassId} {A : Nat → Prop} {ad : Nat → Nat} {z : TS} {v : Int32} (hL : L ≤ 3072) (E : mE p s m meth c code #[Value.ref b] 4 RL D K A) (hX : va_X b L xs s s.heap) (hbl : b < s.heap.size) (hbA : ¬ A b) (j : JJ z) (h0 : 0 ≤ v.toInt) (h6 : v.toInt + 6 ≤ (L : Int)) (KK : ∀ (z : TS) (H : Heap) (locs : List Loc) (ls : Array Slot), mG D A s H locs (wd K ad z) → JJ z → lv_has ls 4 [(3, .int v), (2, .ref (ad 386)), (1, .ref (ad 0)), (0, .ref b)] → W p l e room_1 s m #[Value.ref b] below meth c H locs 600000 7302250 (lw_Z below #[Value.ref b] s) (F0 m 1250 ls [])) {H : Heap} {locs : List Loc} {ls : Array Slot} (G : mG D A s H locs (wd K ad z)) (hl : lv_has ls 4 [(3, .int v), (2, .ref (ad 386)), (1, .ref (ad 0)), (0, .ref b)]) : W p l e room_1 s m #[Value.ref b] below meth c H locs 600000 7302250 (lw_Z below #[Value.ref b] s) (F0 m 360 ls []) := by
  refine lv_aload_n E.1 E.2.1 dL_law_360 rfl (lv_at hl 2 rfl) ?_
  refine lv_aload_n E.1 E.2.1 dL_law_361 rfl (lv_at hl 3 rfl) ?_
  refine lv_iload_n E.1 E.2.1 dL_law_362 rfl (lv_at hl 0 rfl) ?_
  refine lv_iconst (v := 1) E.1 E.2.1 dL_law_363 (by decide) ?_
  refine lv_iadd E.1 E.2.1 dL_law_364 ?_
  refine va_sld E.1 E.2.1 hX hbl hbA G.2.2 (law_in h0 h6 hL 1 (iv_lit 1 (by decide) (by decide))) dL_law_365 ?_
  refine lv_topi (fun x1 ex1 => ?_)
  refine lv_aload_n E.1 E.2.1 dL_law_366 rfl (lv_at hl 3 rfl) ?_
  refine lv_iload_n E.1 E.2.1 dL_law_367 rfl (lv_at hl 0 rfl) ?_
  refine lv_iconst (v := 2) E.1 E.2.1 dL_law_368 (by decide) ?_
  refine lv_iadd E.1 E.2.1 dL_law_369 ?_
  refine va_sld E.1 E.2.1 hX hbl hbA G.2.2 (law_in h0 h6 hL 2 (iv_lit 2 (by decide) (by decide))) dL_law_370 ?_
  refine lv_topi (fun x2 ex2 => ?_)
  refine l_vi E G hl (k_walker l D K ad z j.1 x1 x2) 10 (rfl : ro 0 = 10) (by decide) rfl rfl 2 rfl mw_code_X10_walker mw_ini_10 mw_ml_L_41 mw_inst_X10_walker mw_sel_X10_walker hd_X10_walker ⟨by decide, by decide⟩ rfl rfl ⟨by decide, by decide⟩ rfl (Nat.le_of_ble_eq_true rfl) dL_law_371 (fun ra ua H locs hpa G => ?_)
  refine lv_pop E.1 E.2.1 dL_law_374 rfl ?_
  rw [hpa] at G
  refine lv_aload_n E.1 E.2.1 dL_law_375 rfl (lv_at hl 1 rfl) ?_
  refine lv_aload_n E.1 E.2.1 dL_law_376 rfl (lv_at hl 3 rfl) ?_
  refine lv_iload_n E.1 E.2.1 dL_law_377 rfl (lv_at hl 0 rfl) ?_
  refine lv_iconst (v := 1) E.1 E.2.1 dL_law_378 (by decide) ?_
  refine lv_iadd E.1 E.2.1 dL_law_379 ?_
  refine va_sld E.1 E.2.1 hX hbl hbA G.2.2 (law_in h0 h6 hL 1 (iv_lit 1 (by decide) (by decide))) dL_law_380 ?_
  refine m_ci x1 ex1.symm ?_
  refine lv_aload_n E.1 E.2.1 dL_law_381 rfl (lv_at hl 3 rfl) ?_
  refine lv_iload_n E.1 E.2.1 dL_law_382 rfl (lv_at hl 0 rfl) ?_
  refine lv_iconst (v := 2) E.1 E.2.1 dL_law_383 (by decide) ?_
  refine lv_iadd E.1 E.2.1 dL_law_384 ?_
  refine va_sld E.1 E.2.1 hX hbl hbA G.2.2 (law_in h0 h6 hL 2 (iv_lit 2 (by decide) (by decide))) dL_law_385 ?_
  refine m_ci x2 ex2.symm ?_
  refine l_vi E G hl (v_walker l D K ad z j.1 x1 x2) 11 (rfl : ro 386 = 11) (by decide) rfl rfl 2 rfl mw_code_X11_walker mw_ini_11 mw_ml_L_44 mw_inst_X11_walker mw_sel_X11_walker hd_X11_walker ⟨by decide, by decide⟩ rfl rfl ⟨by decide, by decide⟩ rfl (Nat.le_of_ble_eq_true rfl) dL_law_386 (fun rb ub H locs hpb G => ?_)
  rw [hpb] at G
  refine lv_pop E.1 E.2.1 dL_law_389 rfl ?_
  refine lv_goto (tgt := 1250) E.1 E.2.1 dL_law_390 (by decide) ?_
  exact KK _ _ _ _ G j hl
set_option maxHeartbeats 4000000 in
set_option maxRecDepth 100000 in
theorem law_ways {p : Program} {e : Env} {s : State} {m : MethodId} {below : List Frame} {meth : Method} {c : Code} (l : Launch) {b L : Nat} {xs : Nat → Int32} {D : va_G} {K : Nat → ClassId} {A : Nat → Prop} {ad : Nat → Nat} {z : TS} {v : Int32} (hL : L ≤ 3072) (E : mE p s m meth c code #[Value.ref b] 4 RL D K A) (hX : va_X b L xs s s.heap) (hbl : b < s.heap.size) (hbA : ¬ A b) (j : JJ z) (h0 : 0 ≤ v.toInt) (h6 : v.toInt + 6 ≤ (L : Int)) (KK : ∀ (z : TS) (H : Heap) (locs : List Loc) (ls : Array Slot), mG D A s H locs (wd K ad z) → JJ z → lv_has ls 4 [(3, .int v), (2, .ref (ad 386)), (1, .ref (ad 0)), (0, .ref b)] → W p l e room_1 s m #[Value.ref b] below meth c H locs 600000 7302250 (lw_Z below #[Value.ref b] s) (F0 m 1250 ls [])) {H : Heap} {locs : List Loc} {ls : Array Slot} (G : mG D A s H locs (wd K ad z)) (hl : lv_has ls 4 [(3, .int v), (2, .ref (ad 386)), (1, .ref (ad 0)), (0, .ref b)]) : W p l e room_1 s m #[Value.ref b] below meth c H locs 600000 7302250 (lw_Z below #[Value.ref b] s) (F0 m 393 ls []) := by
  refine lv_aload_n E.1 E.2.1 dL_law_393 rfl (lv_at hl 2 rfl) ?_
  refine lv_aload_n E.1 E.2.1 dL_law_394 rfl (lv_at hl 3 rfl) ?_
  refine lv_iload_n E.1 E.2.1 dL_law_395 rfl (lv_at hl 0 rfl) ?_
  refine lv_iconst (v := 1) E.1 E.2.1 dL_law_396 (by decide) ?_
  refine lv_iadd E.1 E.2.1 dL_law_397 ?_
  refine va_sld E.1 E.2.1 hX hbl hbA G.2.2 (law_in h0 h6 hL 1 (iv_lit 1 (by decide) (by decide))) dL_law_398 ?_
  refine lv_topi (fun x1 ex1 => ?_)
  refine l_vi E G hl (k_ways l D K ad z j.1 x1) 10 (rfl : ro 0 = 10) (by decide) rfl rfl 1 rfl mw_code_X10_ways mw_ini_10 mw_ml_L_45 mw_inst_X10_ways mw_sel_X10_ways hd_X10_ways ⟨by decide, by decide⟩ rfl rfl ⟨by decide, by decide⟩ rfl (Nat.le_of_ble_eq_true rfl) dL_law_399 (fun ra ua H locs hpa G => ?_)
  refine lv_pop E.1 E.2.1 dL_law_402 rfl ?_
  rw [hpa] at G
  refine lv_aload_n E.1 E.2.1 dL_law_403 rfl (lv_at hl 1 rfl) ?_
  refine lv_aload_n E.1 E.2.1 dL_law_404 rfl (lv_at hl 3 rfl) ?_
  refine lv_iload_n E.1 E.2.1 dL_law_405 rfl (lv_at hl 0 rfl) ?_
  refine lv_iconst (v := 1) E.1 E.2.1 dL_law_406 (by decide) ?_
  refine lv_iadd E.1 E.2.1 dL_law_407 ?_
  refine va_sld E.1 E.2.1 hX hbl hbA G.2.2 (law_in h0 h6 hL 1 (iv_lit 1 (by decide) (by decide))) dL_law_408 ?_
  refine m_ci x1 ex1.symm ?_
  refine l_vi E G hl (v_ways l D K ad z j.1 x1) 11 (rfl : ro 386 = 11) (by decide) rfl rfl 1 rfl mw_code_X11_ways mw_ini_11 mw_ml_L_48 mw_inst_X11_ways mw_sel_X11_ways hd_X11_ways ⟨by decide, by decide⟩ rfl rfl ⟨by decide, by decide⟩ rfl (Nat.le_of_ble_eq_true rfl) dL_law_409 (fun rb ub H locs hpb G => ?_)
  rw [hpb] at G
  refine lv_pop E.1 E.2.1 dL_law_412 rfl ?_
  refine lv_goto (tgt := 1250) E.1 E.2.1 dL_law_413 (by decide) ?_
  exact KK _ _ _ _ G j hl
set_option maxHeartbeats 4000000 in
set_option maxRecDepth 100000 in
theorem law_step {p : Program} {e : Env} {s : State} {m : MethodId} {below : List Frame} {meth : Method} {c : Code} (l : Launch) {b L : Nat} {xs : Nat → Int32} {D : va_G} {K : Nat → ClassId} {A : Nat → Prop} {ad : Nat → Nat} {z : TS} {v : Int32} (hL : L ≤ 3072) (E : mE p s m meth c code #[Value.ref b] 4 RL D K A) (hX : va_X b L xs s s.heap) (hbl : b < s.heap.size) (hbA : ¬ A b) (j : JJ z) (h0 : 0 ≤ v.toInt) (h6 : v.toInt + 6 ≤ (L : Int)) (KK : ∀ (z : TS) (H : Heap) (locs : List Loc) (ls : Array Slot), mG D A s H locs (wd K ad z) → JJ z → lv_has ls 4 [(3, .int v), (2, .ref (ad 386)), (1, .ref (ad 0)), (0, .ref b)] → W p l e room_1 s m #[Value.ref b] below meth c H locs 600000 7302250 (lw_Z below #[Value.ref b] s) (F0 m 1250 ls [])) {H : Heap} {locs : List Loc} {ls : Array Slot} (G : mG D A s H locs (wd K ad z)) (hl : lv_has ls 4 [(3, .int v), (2, .ref (ad 386)), (1, .ref (ad 0)), (0, .ref b)]) : W p l e room_1 s m #[Value.ref b] below meth c H locs 600000 7302250 (lw_Z below #[Value.ref b] s) (F0 m 416 ls []) := by
  refine lv_aload_n E.1 E.2.1 dL_law_416 rfl (lv_at hl 2 rfl) ?_
  refine l_vi E G hl (k_step l D K ad z j.1) 10 (rfl : ro 0 = 10) (by decide) rfl rfl 0 rfl mw_code_X10_step mw_ini_10 mw_ml_L_49 mw_inst_X10_step mw_sel_X10_step hd_X10_step ⟨by decide, by decide⟩ rfl rfl ⟨by decide, by decide⟩ rfl (Nat.le_of_ble_eq_true rfl) dL_law_417 (fun ra ua H locs hpa G => ?_)
  refine lv_pop E.1 E.2.1 dL_law_420 rfl ?_
  have ja : JJ ua := JJ.c j hpa.1 hpa.2
  refine lv_aload_n E.1 E.2.1 dL_law_421 rfl (lv_at hl 1 rfl) ?_
  refine l_vi E G hl (v_step l D K ad ua ja.1 ja.2.1) 11 (rfl : ro 386 = 11) (by decide) rfl rfl 0 rfl mw_code_X11_step mw_ini_11 mw_ml_L_52 mw_inst_X11_step mw_sel_X11_step hd_X11_step ⟨by decide, by decide⟩ rfl rfl ⟨by decide, by decide⟩ rfl (Nat.le_of_ble_eq_true rfl) dL_law_422 (fun rb ub H locs hpb G => ?_)
  have jb : JJ ub := JJ.r ja hpb.1 (KM.r hpb.2) (wf_ka ja.2.1 hpb.2.2.1 rfl rfl rfl rfl)
  refine lv_pop E.1 E.2.1 dL_law_425 rfl ?_
  refine lv_goto (tgt := 1250) E.1 E.2.1 dL_law_426 (by decide) ?_
  exact KK _ _ _ _ G jb hl
