theorem mw_code_X10_hasCorner : (Cond.code yX10_hasCorner cX10_hasCorner 2 (some .boolean) : Cond) ∈ cw := cw_of (List.mem_append_right _ (List.mem_append_right _ (List.mem_append_right _ (List.mem_append_right _ (List.mem_append_left _ (List.mem_of_getElem? (i := 38) rfl)))))) (by decide +kernel)
theorem mw_code_X10_hasWalker : (Cond.code yX10_hasWalker cX10_hasWalker 2 (some .boolean) : Cond) ∈ cw := cw_of (List.mem_append_right _ (List.mem_append_right _ (List.mem_append_right _ (List.mem_append_right _ (List.mem_append_left _ (List.mem_of_getElem? (i := 30) rfl)))))) (by decide +kernel)
theorem mw_code_X8_waysHome : (Cond.code yX8_waysHome cX8_waysHome 3 (some .int) : Cond) ∈ cw := cw_of (List.mem_append_right _ (List.mem_append_right _ (List.mem_append_right _ (List.mem_append_right _ (List.mem_append_left _ (List.mem_of_getElem? (i := 93) rfl)))))) (by decide +kernel)
theorem mw_fl_10_153 : (Cond.fieldLink RX10 153 "LureTown$State" "lureCorner" "[I" : Cond) ∈ cw := cw_of (List.mem_append_right _ (List.mem_append_left _ (List.mem_of_getElem? (i := 104) (by decide +kernel)))) (by decide +kernel)
theorem mw_fl_10_156 : (Cond.fieldLink RX10 156 "LureTown$State" "lureKind" "[I" : Cond) ∈ cw := cw_of (List.mem_append_right _ (List.mem_append_left _ (List.mem_of_getElem? (i := 108) (by decide +kernel)))) (by decide +kernel)
theorem mw_fl_10_159 : (Cond.fieldLink RX10 159 "LureTown$Town" "lureGuile" "[I" : Cond) ∈ cw := cw_of (List.mem_append_right _ (List.mem_append_left _ (List.mem_of_getElem? (i := 152) (by decide +kernel)))) (by decide +kernel)
theorem mw_fl_10_162 : (Cond.fieldLink RX10 162 "LureTown$Town" "lureCharge" "[I" : Cond) ∈ cw := cw_of (List.mem_append_right _ (List.mem_append_left _ (List.mem_of_getElem? (i := 155) (by decide +kernel)))) (by decide +kernel)
theorem mw_fl_10_171 : (Cond.fieldLink RX10 171 "LureTown$State" "walkerCorner" "[I" : Cond) ∈ cw := cw_of (List.mem_append_right _ (List.mem_append_left _ (List.mem_of_getElem? (i := 90) (by decide +kernel)))) (by decide +kernel)
theorem mw_fl_10_174 : (Cond.fieldLink RX10 174 "LureTown$Town" "walkerHome" "[I" : Cond) ∈ cw := cw_of (List.mem_append_right _ (List.mem_append_left _ (List.mem_of_getElem? (i := 157) (by decide +kernel)))) (by decide +kernel)
theorem mw_fl_10_177 : (Cond.fieldLink RX10 177 "LureTown$State" "walkerHeart" "[I" : Cond) ∈ cw := cw_of (List.mem_append_right _ (List.mem_append_left _ (List.mem_of_getElem? (i := 94) (by decide +kernel)))) (by decide +kernel)
theorem mw_fl_10_180 : (Cond.fieldLink RX10 180 "LureTown$State" "walkerWary" "[I" : Cond) ∈ cw := cw_of (List.mem_append_right _ (List.mem_append_left _ (List.mem_of_getElem? (i := 98) (by decide +kernel)))) (by decide +kernel)
theorem mw_fl_10_183 : (Cond.fieldLink RX10 183 "LureTown$State" "walkerCharge" "[I" : Cond) ∈ cw := cw_of (List.mem_append_right _ (List.mem_append_left _ (List.mem_of_getElem? (i := 101) (by decide +kernel)))) (by decide +kernel)
theorem mw_fl_10_189 : (Cond.fieldLink RX10 189 "LureTown$Town" "joined" "[I" : Cond) ∈ cw := cw_of (List.mem_append_right _ (List.mem_append_left _ (List.mem_of_getElem? (i := 150) (by decide +kernel)))) (by decide +kernel)
theorem mw_inst_X10_hasCorner : (Cond.instanceMethod yX10_hasCorner : Cond) ∈ cw := cw_of (List.mem_append_right _ (List.mem_append_right _ (List.mem_append_right _ (List.mem_append_right _ (List.mem_append_left _ (List.mem_of_getElem? (i := 37) (by decide +kernel))))))) (by decide +kernel)
theorem mw_inst_X10_hasWalker : (Cond.instanceMethod yX10_hasWalker : Cond) ∈ cw := cw_of (List.mem_append_right _ (List.mem_append_right _ (List.mem_append_right _ (List.mem_append_right _ (List.mem_append_left _ (List.mem_of_getElem? (i := 29) (by decide +kernel))))))) (by decide +kernel)
theorem mw_inst_X8_waysHome : (Cond.instanceMethod yX8_waysHome : Cond) ∈ cw := cw_of (List.mem_append_right _ (List.mem_append_right _ (List.mem_append_right _ (List.mem_append_right _ (List.mem_append_left _ (List.mem_of_getElem? (i := 91) (by decide +kernel))))))) (by decide +kernel)
theorem mw_ml_10_168 : (Cond.methodLink RX10 168 yX10_hasWalker : Cond) ∈ cw := cw_of (List.mem_append_right _ (List.mem_append_right _ (List.mem_append_right _ (List.mem_append_right _ (List.mem_append_left _ (List.mem_of_getElem? (i := 27) (by decide +kernel))))))) (by decide +kernel)
theorem mw_ml_10_186 : (Cond.methodLink RX10 186 yX10_hasCorner : Cond) ∈ cw := cw_of (List.mem_append_right _ (List.mem_append_right _ (List.mem_append_right _ (List.mem_append_right _ (List.mem_append_left _ (List.mem_of_getElem? (i := 35) (by decide +kernel))))))) (by decide +kernel)
theorem mw_ml_10_277 : (Cond.methodLink RX10 277 yX8_waysHome : Cond) ∈ cw := cw_of (List.mem_append_right _ (List.mem_append_right _ (List.mem_append_right _ (List.mem_append_right _ (List.mem_append_left _ (List.mem_of_getElem? (i := 221) (by decide +kernel))))))) (by decide +kernel)
theorem mw_sel_X10_hasCorner : (Cond.selects RX10 yX10_hasCorner yX10_hasCorner : Cond) ∈ cw := cw_of (List.mem_append_left _ (List.mem_of_getElem? (i := 24) (by decide +kernel))) (by decide +kernel)
theorem mw_sel_X10_hasWalker : (Cond.selects RX10 yX10_hasWalker yX10_hasWalker : Cond) ∈ cw := cw_of (List.mem_append_left _ (List.mem_of_getElem? (i := 23) (by decide +kernel))) (by decide +kernel)
theorem mw_sel_X8_waysHome : (Cond.selects RX8 yX8_waysHome yX8_waysHome : Cond) ∈ cw := cw_of (List.mem_append_right _ (List.mem_append_right _ (List.mem_append_right _ (List.mem_append_right _ (List.mem_append_left _ (List.mem_of_getElem? (i := 92) (by decide +kernel))))))) (by decide +kernel)
theorem dX10_far_0 : decode cX10_far 0 = .ok (.aload_n 0, 1) := by decide +kernel
theorem dX10_far_1 : decode cX10_far 1 = .ok (.iload_n 1, 1) := by decide +kernel
theorem dX10_far_2 : decode cX10_far 2 = .ok (.invokevirtual 168, 3) := by decide +kernel
theorem dX10_far_5 : decode cX10_far 5 = .ok (.ifCond .ne 5, 3) := by decide +kernel
theorem dX10_far_8 : decode cX10_far 8 = .ok (.iconst (-1), 1) := by decide +kernel
theorem dX10_far_9 : decode cX10_far 9 = .ok (.ireturn, 1) := by decide +kernel
theorem dX10_far_10 : decode cX10_far 10 = .ok (.aload_n 0, 1) := by decide +kernel
theorem dX10_far_11 : decode cX10_far 11 = .ok (.getfield 55, 3) := by decide +kernel
theorem dX10_far_14 : decode cX10_far 14 = .ok (.getfield 114, 3) := by decide +kernel
theorem dX10_far_17 : decode cX10_far 17 = .ok (.iload_n 1, 1) := by decide +kernel
theorem dX10_far_18 : decode cX10_far 18 = .ok (.aload_n 0, 1) := by decide +kernel
theorem dX10_far_19 : decode cX10_far 19 = .ok (.getfield 55, 3) := by decide +kernel
theorem dX10_far_22 : decode cX10_far 22 = .ok (.getfield 121, 3) := by decide +kernel
theorem dX10_far_25 : decode cX10_far 25 = .ok (.getfield 171, 3) := by decide +kernel
theorem dX10_far_28 : decode cX10_far 28 = .ok (.iload_n 1, 1) := by decide +kernel
theorem dX10_far_29 : decode cX10_far 29 = .ok (.iaload, 1) := by decide +kernel
theorem dX10_far_30 : decode cX10_far 30 = .ok (.invokevirtual 277, 3) := by decide +kernel
theorem dX10_far_33 : decode cX10_far 33 = .ok (.istore_n 2, 1) := by decide +kernel
theorem dX10_far_34 : decode cX10_far 34 = .ok (.iload_n 2, 1) := by decide +kernel
theorem dX10_far_35 : decode cX10_far 35 = .ok (.bipush 99, 2) := by decide +kernel
theorem dX10_far_37 : decode cX10_far 37 = .ok (.if_icmp .ne 8, 3) := by decide +kernel
theorem dX10_far_40 : decode cX10_far 40 = .ok (.bipush (-2), 2) := by decide +kernel
theorem dX10_far_42 : decode cX10_far 42 = .ok (.goto 4, 3) := by decide +kernel
theorem dX10_far_45 : decode cX10_far 45 = .ok (.iload_n 2, 1) := by decide +kernel
theorem dX10_far_46 : decode cX10_far 46 = .ok (.ireturn, 1) := by decide +kernel
theorem dX10_lure_0 : decode cX10_lure 0 = .ok (.aload_n 0, 1) := by decide +kernel
theorem dX10_lure_1 : decode cX10_lure 1 = .ok (.iload_n 1, 1) := by decide +kernel
theorem dX10_lure_2 : decode cX10_lure 2 = .ok (.invokevirtual 149, 3) := by decide +kernel
theorem dX10_lure_5 : decode cX10_lure 5 = .ok (.ifCond .ne 5, 3) := by decide +kernel
theorem dX10_lure_8 : decode cX10_lure 8 = .ok (.iconst (-1), 1) := by decide +kernel
theorem dX10_lure_9 : decode cX10_lure 9 = .ok (.ireturn, 1) := by decide +kernel
theorem dX10_lure_10 : decode cX10_lure 10 = .ok (.iload_n 2, 1) := by decide +kernel
theorem dX10_lure_11 : decode cX10_lure 11 = .ok (.tableswitch 105 0 4 #[33, 46, 59, 72, 85], 33) := by decide +kernel
theorem dX10_lure_44 : decode cX10_lure 44 = .ok (.aload_n 0, 1) := by decide +kernel
theorem dX10_lure_45 : decode cX10_lure 45 = .ok (.getfield 55, 3) := by decide +kernel
theorem dX10_lure_48 : decode cX10_lure 48 = .ok (.getfield 121, 3) := by decide +kernel
theorem dX10_lure_51 : decode cX10_lure 51 = .ok (.getfield 153, 3) := by decide +kernel
theorem dX10_lure_54 : decode cX10_lure 54 = .ok (.iload_n 1, 1) := by decide +kernel
theorem dX10_lure_55 : decode cX10_lure 55 = .ok (.iaload, 1) := by decide +kernel
theorem dX10_lure_56 : decode cX10_lure 56 = .ok (.ireturn, 1) := by decide +kernel
theorem dX10_lure_57 : decode cX10_lure 57 = .ok (.aload_n 0, 1) := by decide +kernel
theorem dX10_lure_58 : decode cX10_lure 58 = .ok (.getfield 55, 3) := by decide +kernel
theorem dX10_lure_61 : decode cX10_lure 61 = .ok (.getfield 121, 3) := by decide +kernel
theorem dX10_lure_64 : decode cX10_lure 64 = .ok (.getfield 156, 3) := by decide +kernel
theorem dX10_lure_67 : decode cX10_lure 67 = .ok (.iload_n 1, 1) := by decide +kernel
theorem dX10_lure_68 : decode cX10_lure 68 = .ok (.iaload, 1) := by decide +kernel
theorem dX10_lure_69 : decode cX10_lure 69 = .ok (.ireturn, 1) := by decide +kernel
theorem dX10_lure_70 : decode cX10_lure 70 = .ok (.aload_n 0, 1) := by decide +kernel
theorem dX10_lure_71 : decode cX10_lure 71 = .ok (.getfield 55, 3) := by decide +kernel
theorem dX10_lure_74 : decode cX10_lure 74 = .ok (.getfield 114, 3) := by decide +kernel
theorem dX10_lure_77 : decode cX10_lure 77 = .ok (.getfield 159, 3) := by decide +kernel
theorem dX10_lure_80 : decode cX10_lure 80 = .ok (.iload_n 1, 1) := by decide +kernel
theorem dX10_lure_81 : decode cX10_lure 81 = .ok (.iaload, 1) := by decide +kernel
theorem dX10_lure_82 : decode cX10_lure 82 = .ok (.ireturn, 1) := by decide +kernel
theorem dX10_lure_83 : decode cX10_lure 83 = .ok (.aload_n 0, 1) := by decide +kernel
theorem dX10_lure_84 : decode cX10_lure 84 = .ok (.getfield 55, 3) := by decide +kernel
theorem dX10_lure_87 : decode cX10_lure 87 = .ok (.getfield 114, 3) := by decide +kernel
theorem dX10_lure_90 : decode cX10_lure 90 = .ok (.getfield 162, 3) := by decide +kernel
theorem dX10_lure_93 : decode cX10_lure 93 = .ok (.iload_n 1, 1) := by decide +kernel
theorem dX10_lure_94 : decode cX10_lure 94 = .ok (.iaload, 1) := by decide +kernel
theorem dX10_lure_95 : decode cX10_lure 95 = .ok (.ireturn, 1) := by decide +kernel
theorem dX10_lure_96 : decode cX10_lure 96 = .ok (.aload_n 0, 1) := by decide +kernel
theorem dX10_lure_97 : decode cX10_lure 97 = .ok (.getfield 55, 3) := by decide +kernel
theorem dX10_lure_100 : decode cX10_lure 100 = .ok (.getfield 121, 3) := by decide +kernel
theorem dX10_lure_103 : decode cX10_lure 103 = .ok (.iload_n 1, 1) := by decide +kernel
theorem dX10_lure_104 : decode cX10_lure 104 = .ok (.invokevirtual 165, 3) := by decide +kernel
theorem dX10_lure_107 : decode cX10_lure 107 = .ok (.ifCond .eq 7, 3) := by decide +kernel
theorem dX10_lure_110 : decode cX10_lure 110 = .ok (.iconst 1, 1) := by decide +kernel
theorem dX10_lure_111 : decode cX10_lure 111 = .ok (.goto 4, 3) := by decide +kernel
theorem dX10_lure_114 : decode cX10_lure 114 = .ok (.iconst 0, 1) := by decide +kernel
theorem dX10_lure_115 : decode cX10_lure 115 = .ok (.ireturn, 1) := by decide +kernel
theorem dX10_lure_116 : decode cX10_lure 116 = .ok (.iconst (-1), 1) := by decide +kernel
theorem dX10_lure_117 : decode cX10_lure 117 = .ok (.ireturn, 1) := by decide +kernel
theorem dX10_walker_0 : decode cX10_walker 0 = .ok (.aload_n 0, 1) := by decide +kernel
theorem dX10_walker_1 : decode cX10_walker 1 = .ok (.iload_n 1, 1) := by decide +kernel
theorem dX10_walker_2 : decode cX10_walker 2 = .ok (.invokevirtual 168, 3) := by decide +kernel
theorem dX10_walker_5 : decode cX10_walker 5 = .ok (.ifCond .ne 5, 3) := by decide +kernel
theorem dX10_walker_8 : decode cX10_walker 8 = .ok (.iconst (-1), 1) := by decide +kernel
theorem dX10_walker_9 : decode cX10_walker 9 = .ok (.ireturn, 1) := by decide +kernel
theorem dX10_walker_10 : decode cX10_walker 10 = .ok (.iload_n 2, 1) := by decide +kernel
theorem dX10_walker_11 : decode cX10_walker 11 = .ok (.tableswitch 98 0 4 #[33, 46, 59, 72, 85], 33) := by decide +kernel
theorem dX10_walker_44 : decode cX10_walker 44 = .ok (.aload_n 0, 1) := by decide +kernel
theorem dX10_walker_45 : decode cX10_walker 45 = .ok (.getfield 55, 3) := by decide +kernel
theorem dX10_walker_48 : decode cX10_walker 48 = .ok (.getfield 121, 3) := by decide +kernel
theorem dX10_walker_51 : decode cX10_walker 51 = .ok (.getfield 171, 3) := by decide +kernel
theorem dX10_walker_54 : decode cX10_walker 54 = .ok (.iload_n 1, 1) := by decide +kernel
theorem dX10_walker_55 : decode cX10_walker 55 = .ok (.iaload, 1) := by decide +kernel
theorem dX10_walker_56 : decode cX10_walker 56 = .ok (.ireturn, 1) := by decide +kernel
theorem dX10_walker_57 : decode cX10_walker 57 = .ok (.aload_n 0, 1) := by decide +kernel
theorem dX10_walker_58 : decode cX10_walker 58 = .ok (.getfield 55, 3) := by decide +kernel
theorem dX10_walker_61 : decode cX10_walker 61 = .ok (.getfield 114, 3) := by decide +kernel
theorem dX10_walker_64 : decode cX10_walker 64 = .ok (.getfield 174, 3) := by decide +kernel
theorem dX10_walker_67 : decode cX10_walker 67 = .ok (.iload_n 1, 1) := by decide +kernel
theorem dX10_walker_68 : decode cX10_walker 68 = .ok (.iaload, 1) := by decide +kernel
theorem dX10_walker_69 : decode cX10_walker 69 = .ok (.ireturn, 1) := by decide +kernel
theorem dX10_walker_70 : decode cX10_walker 70 = .ok (.aload_n 0, 1) := by decide +kernel
theorem dX10_walker_71 : decode cX10_walker 71 = .ok (.getfield 55, 3) := by decide +kernel
theorem dX10_walker_74 : decode cX10_walker 74 = .ok (.getfield 121, 3) := by decide +kernel
theorem dX10_walker_77 : decode cX10_walker 77 = .ok (.getfield 177, 3) := by decide +kernel
theorem dX10_walker_80 : decode cX10_walker 80 = .ok (.iload_n 1, 1) := by decide +kernel
theorem dX10_walker_81 : decode cX10_walker 81 = .ok (.iaload, 1) := by decide +kernel
theorem dX10_walker_82 : decode cX10_walker 82 = .ok (.ireturn, 1) := by decide +kernel
theorem dX10_walker_83 : decode cX10_walker 83 = .ok (.aload_n 0, 1) := by decide +kernel
theorem dX10_walker_84 : decode cX10_walker 84 = .ok (.getfield 55, 3) := by decide +kernel
theorem dX10_walker_87 : decode cX10_walker 87 = .ok (.getfield 121, 3) := by decide +kernel
theorem dX10_walker_90 : decode cX10_walker 90 = .ok (.getfield 180, 3) := by decide +kernel
theorem dX10_walker_93 : decode cX10_walker 93 = .ok (.iload_n 1, 1) := by decide +kernel
theorem dX10_walker_94 : decode cX10_walker 94 = .ok (.iaload, 1) := by decide +kernel
theorem dX10_walker_95 : decode cX10_walker 95 = .ok (.ireturn, 1) := by decide +kernel
theorem dX10_walker_96 : decode cX10_walker 96 = .ok (.aload_n 0, 1) := by decide +kernel
theorem dX10_walker_97 : decode cX10_walker 97 = .ok (.getfield 55, 3) := by decide +kernel
theorem dX10_walker_100 : decode cX10_walker 100 = .ok (.getfield 121, 3) := by decide +kernel
theorem dX10_walker_103 : decode cX10_walker 103 = .ok (.getfield 183, 3) := by decide +kernel
theorem dX10_walker_106 : decode cX10_walker 106 = .ok (.iload_n 1, 1) := by decide +kernel
theorem dX10_walker_107 : decode cX10_walker 107 = .ok (.iaload, 1) := by decide +kernel
theorem dX10_walker_108 : decode cX10_walker 108 = .ok (.ireturn, 1) := by decide +kernel
theorem dX10_walker_109 : decode cX10_walker 109 = .ok (.iconst (-1), 1) := by decide +kernel
theorem dX10_walker_110 : decode cX10_walker 110 = .ok (.ireturn, 1) := by decide +kernel
theorem dX10_ways_0 : decode cX10_ways 0 = .ok (.aload_n 0, 1) := by decide +kernel
theorem dX10_ways_1 : decode cX10_ways 1 = .ok (.iload_n 1, 1) := by decide +kernel
theorem dX10_ways_2 : decode cX10_ways 2 = .ok (.invokevirtual 186, 3) := by decide +kernel
theorem dX10_ways_5 : decode cX10_ways 5 = .ok (.ifCond .eq 18, 3) := by decide +kernel
theorem dX10_ways_8 : decode cX10_ways 8 = .ok (.aload_n 0, 1) := by decide +kernel
theorem dX10_ways_9 : decode cX10_ways 9 = .ok (.getfield 55, 3) := by decide +kernel
theorem dX10_ways_12 : decode cX10_ways 12 = .ok (.getfield 114, 3) := by decide +kernel
theorem dX10_ways_15 : decode cX10_ways 15 = .ok (.getfield 189, 3) := by decide +kernel
theorem dX10_ways_18 : decode cX10_ways 18 = .ok (.iload_n 1, 1) := by decide +kernel
theorem dX10_ways_19 : decode cX10_ways 19 = .ok (.iaload, 1) := by decide +kernel
theorem dX10_ways_20 : decode cX10_ways 20 = .ok (.goto 4, 3) := by decide +kernel
theorem dX10_ways_23 : decode cX10_ways 23 = .ok (.iconst (-1), 1) := by decide +kernel
theorem dX10_ways_24 : decode cX10_ways 24 = .ok (.ireturn, 1) := by decide +kernel
theorem hd_X10_hasCorner : yX10_hasCorner.cls ≠ "java/lang/invoke/MethodHandle" ∧ yX10_hasCorner.cls ≠ "java/lang/invoke/VarHandle" ∧ (parseMethodDescriptor yX10_hasCorner.desc).map (fun d => d.parameters.length) = some 1 := ⟨by decide +kernel, by decide +kernel, by decide +kernel⟩
theorem hd_X10_hasWalker : yX10_hasWalker.cls ≠ "java/lang/invoke/MethodHandle" ∧ yX10_hasWalker.cls ≠ "java/lang/invoke/VarHandle" ∧ (parseMethodDescriptor yX10_hasWalker.desc).map (fun d => d.parameters.length) = some 1 := ⟨by decide +kernel, by decide +kernel, by decide +kernel⟩
theorem hd_X8_waysHome : yX8_waysHome.cls ≠ "java/lang/invoke/MethodHandle" ∧ yX8_waysHome.cls ≠ "java/lang/invoke/VarHandle" ∧ (parseMethodDescriptor yX8_waysHome.desc).map (fun d => d.parameters.length) = some 2 := ⟨by decide +kernel, by decide +kernel, by decide +kernel⟩
theorem sw_0_4 (x : Int32) (h1 : ¬ x.toInt < 0) (h2 : ¬ 4 < x.toInt) : x = 0 ∨ x = 1 ∨ x = 2 ∨ x = 3 ∨ x = 4 := by
  have h := (Int32.ofInt_toInt x).symm
  have h3 : ∃ n : Int, n = x.toInt := ⟨_, rfl⟩
  obtain ⟨n, hn⟩ := h3
  rw [← hn] at h h1 h2
  have h4 : n = 0 ∨ n = 1 ∨ n = 2 ∨ n = 3 ∨ n = 4 := by omega
  subst h
  clear hn
  rcases h4 with rfl | rfl | rfl | rfl | rfl <;> simp
set_option maxHeartbeats 4000000 in
set_option maxRecDepth 100000 in
theorem k_lure (l : Launch) (D : va_G) (K : Nat → ClassId) (ad : Nat → Nat) (z : TS) (o : Ok z) (x1 : Int32) (x2 : Int32) : cI l yX10_lure cX10_lure 3 .int ({ frames := 1, cells := 0, slots := 0, locals := 21 }) D K ad z [.ref (ad 0), .int x1, .int x2] (fun r u => u = z) := by
  refine t_enterI (by decide) (Nat.le_of_ble_eq_true rfl) rfl rfl ?_
  intro p e s m args below meth c A R Q H locs ls E hfr hlo RET G hl
  have E : mE p s m meth c cX10_lure args 3 RX10 D K A := E
  have hl : lv_has ls 3 [(0, .ref (ad 0)), (1, .int x1), (2, .int x2)] := hl
  refine lv_aload_n E.1 E.2.1 dX10_lure_0 rfl (lv_at hl 0 rfl) ?_
  refine lv_iload_n E.1 E.2.1 dX10_lure_1 rfl (lv_at hl 1 rfl) ?_
  refine t_vi E G hl (h_lure l D K ad z o x1) 10 (rfl : ro 0 = 10) (by decide) rfl rfl 1 rfl mw_code_X10_hasLure mw_ini_10 mw_ml_10_149 mw_inst_X10_hasLure mw_sel_X10_hasLure hd_X10_hasLure ⟨Nat.le_trans (by decide) hfr, Nat.le_trans (by decide) hlo⟩ rfl rfl rfl (Nat.le_of_ble_eq_true rfl) dX10_lure_2 (fun r2 zz1 H locs hp3 G => ?_)
  obtain ⟨hz6, b4, h5⟩ := hp3
  rw [hz6] at G
  refine lv_if_ne (tgt := 10) E.1 E.2.1 dX10_lure_5 (by decide) (fun c7 => ?_) (fun c7 => ?_)
  · skip
    have b8 : iv 1 1 r2 := ne_lo c7 b4 (by decide) (by decide)
    have b9 : iv 0 5 x1 := h5 c7
    refine lv_iload_n E.1 E.2.1 dX10_lure_10 rfl (lv_at hl 2 rfl) ?_
    rcases Decidable.em (x2.toInt < 0 ∨ 4 < x2.toInt) with c10 | c10
    · refine lv_tableOut (tgt := 116) E.1 E.2.1 dX10_lure_11 c10 (by decide) ?_
      refine lv_iconst (v := (-1)) E.1 E.2.1 dX10_lure_116 (by decide) ?_
      exact RET G rfl rfl dX10_lure_117
    · rcases sw_0_4 x2 (fun h => c10 (Or.inl h)) (fun h => c10 (Or.inr h)) with ee0 | ee1 | ee2 | ee3 | ee4
      · refine lv_tableIn (off := 33) (tgt := 44) E.1 E.2.1 dX10_lure_11 (by rw [ee0]; decide) (by rw [ee0]; decide) (by rw [ee0]; decide) (by decide) ?_
        refine lv_aload_n E.1 E.2.1 dX10_lure_44 rfl (lv_at hl 0 rfl) ?_
        refine t_get E G 10 7 (rfl : ro 0 = 10) (C := RX10) (T := TX10) (N := 17) rfl (by decide) (by decide) (by decide) mw_fl_10_55 (v := .ref (ad 56)) (fvl_o (n := 56) rfl) dX10_lure_45 ?_
        refine t_get E G 2 1 (rfl : ro 56 = 2) (C := RX2) (T := TX2) (N := 5) rfl (by decide) (by decide) (by decide) mw_fl_10_121 (v := .ref (ad 70)) (fvl_o (n := 14) rfl) dX10_lure_48 ?_
        refine t_get E G 6 4 (rfl : ro 70 = 6) (C := RX6) (T := TX6) (N := 8) rfl (by decide) (by decide) (by decide) mw_fl_10_153 (v := .ref (ad 75)) (fvl_o (n := 5) rfl) dX10_lure_51 ?_
        refine lv_iload_n E.1 E.2.1 dX10_lure_54 rfl (lv_at hl 1 rfl) ?_
        refine t_iald E G 23 (rfl : ro 75 = 23) (by decide) (by decide) rfl (n := 6) rfl (iv_vp b9 (by decide) (by decide)) dX10_lure_55 ?_
        refine lv_topi (fun v12 e13 => ?_)
        exact RET G rfl rfl dX10_lure_56
      · refine lv_tableIn (off := 46) (tgt := 57) E.1 E.2.1 dX10_lure_11 (by rw [ee1]; decide) (by rw [ee1]; decide) (by rw [ee1]; decide) (by decide) ?_
        refine lv_aload_n E.1 E.2.1 dX10_lure_57 rfl (lv_at hl 0 rfl) ?_
        refine t_get E G 10 7 (rfl : ro 0 = 10) (C := RX10) (T := TX10) (N := 17) rfl (by decide) (by decide) (by decide) mw_fl_10_55 (v := .ref (ad 56)) (fvl_o (n := 56) rfl) dX10_lure_58 ?_
        refine t_get E G 2 1 (rfl : ro 56 = 2) (C := RX2) (T := TX2) (N := 5) rfl (by decide) (by decide) (by decide) mw_fl_10_121 (v := .ref (ad 70)) (fvl_o (n := 14) rfl) dX10_lure_61 ?_
        refine t_get E G 6 5 (rfl : ro 70 = 6) (C := RX6) (T := TX6) (N := 8) rfl (by decide) (by decide) (by decide) mw_fl_10_156 (v := .ref (ad 76)) (fvl_o (n := 6) rfl) dX10_lure_64 ?_
        refine lv_iload_n E.1 E.2.1 dX10_lure_67 rfl (lv_at hl 1 rfl) ?_
        refine t_iald E G 23 (rfl : ro 76 = 23) (by decide) (by decide) rfl (n := 6) rfl (iv_vp b9 (by decide) (by decide)) dX10_lure_68 ?_
        refine lv_topi (fun v14 e15 => ?_)
        exact RET G rfl rfl dX10_lure_69
      · refine lv_tableIn (off := 59) (tgt := 70) E.1 E.2.1 dX10_lure_11 (by rw [ee2]; decide) (by rw [ee2]; decide) (by rw [ee2]; decide) (by decide) ?_
        refine lv_aload_n E.1 E.2.1 dX10_lure_70 rfl (lv_at hl 0 rfl) ?_
        refine t_get E G 10 7 (rfl : ro 0 = 10) (C := RX10) (T := TX10) (N := 17) rfl (by decide) (by decide) (by decide) mw_fl_10_55 (v := .ref (ad 56)) (fvl_o (n := 56) rfl) dX10_lure_71 ?_
        refine t_get E G 2 0 (rfl : ro 56 = 2) (C := RX2) (T := TX2) (N := 5) rfl (by decide) (by decide) (by decide) mw_fl_10_114 (v := .ref (ad 57)) (fvl_o (n := 1) rfl) dX10_lure_74 ?_
        refine t_get E G 8 5 (rfl : ro 57 = 8) (C := RX8) (T := TX8) (N := 10) rfl (by decide) (by decide) (by decide) mw_fl_10_159 (v := .ref (ad 59)) (fvl_o (n := 2) rfl) dX10_lure_77 ?_
        refine lv_iload_n E.1 E.2.1 dX10_lure_80 rfl (lv_at hl 1 rfl) ?_
        refine t_iald E G 23 (rfl : ro 59 = 23) (by decide) (by decide) rfl (n := 6) rfl (iv_vp b9 (by decide) (by decide)) dX10_lure_81 ?_
        refine lv_topi (fun v16 e17 => ?_)
        exact RET G rfl rfl dX10_lure_82
      · refine lv_tableIn (off := 72) (tgt := 83) E.1 E.2.1 dX10_lure_11 (by rw [ee3]; decide) (by rw [ee3]; decide) (by rw [ee3]; decide) (by decide) ?_
        refine lv_aload_n E.1 E.2.1 dX10_lure_83 rfl (lv_at hl 0 rfl) ?_
        refine t_get E G 10 7 (rfl : ro 0 = 10) (C := RX10) (T := TX10) (N := 17) rfl (by decide) (by decide) (by decide) mw_fl_10_55 (v := .ref (ad 56)) (fvl_o (n := 56) rfl) dX10_lure_84 ?_
        refine t_get E G 2 0 (rfl : ro 56 = 2) (C := RX2) (T := TX2) (N := 5) rfl (by decide) (by decide) (by decide) mw_fl_10_114 (v := .ref (ad 57)) (fvl_o (n := 1) rfl) dX10_lure_87 ?_
        refine t_get E G 8 6 (rfl : ro 57 = 8) (C := RX8) (T := TX8) (N := 10) rfl (by decide) (by decide) (by decide) mw_fl_10_162 (v := .ref (ad 60)) (fvl_o (n := 3) rfl) dX10_lure_90 ?_
        refine lv_iload_n E.1 E.2.1 dX10_lure_93 rfl (lv_at hl 1 rfl) ?_
        refine t_iald E G 23 (rfl : ro 60 = 23) (by decide) (by decide) rfl (n := 6) rfl (iv_vp b9 (by decide) (by decide)) dX10_lure_94 ?_
        refine lv_topi (fun v18 e19 => ?_)
        exact RET G rfl rfl dX10_lure_95
      · refine lv_tableIn (off := 85) (tgt := 96) E.1 E.2.1 dX10_lure_11 (by rw [ee4]; decide) (by rw [ee4]; decide) (by rw [ee4]; decide) (by decide) ?_
        refine lv_aload_n E.1 E.2.1 dX10_lure_96 rfl (lv_at hl 0 rfl) ?_
        refine t_get E G 10 7 (rfl : ro 0 = 10) (C := RX10) (T := TX10) (N := 17) rfl (by decide) (by decide) (by decide) mw_fl_10_55 (v := .ref (ad 56)) (fvl_o (n := 56) rfl) dX10_lure_97 ?_
        refine t_get E G 2 1 (rfl : ro 56 = 2) (C := RX2) (T := TX2) (N := 5) rfl (by decide) (by decide) (by decide) mw_fl_10_121 (v := .ref (ad 70)) (fvl_o (n := 14) rfl) dX10_lure_100 ?_
        refine lv_iload_n E.1 E.2.1 dX10_lure_103 rfl (lv_at hl 1 rfl) ?_
        refine t_vi E G hl (s_isSet l D K ad z o 70 (by decide : at_ 6 70 = true) x1) 6 (rfl : ro 70 = 6) (by decide) rfl rfl 1 rfl mw_code_X6_isSet mw_ini_6 mw_ml_10_165 mw_inst_X6_isSet mw_sel_X6_isSet hd_X6_isSet ⟨Nat.le_trans (by decide) hfr, Nat.le_trans (by decide) hlo⟩ rfl rfl rfl (Nat.le_of_ble_eq_true rfl) dX10_lure_104 (fun r21 zz20 H locs hp22 G => ?_)
        obtain ⟨hz24, b23⟩ := hp22
        rw [hz24] at G
        refine lv_if_eq (tgt := 114) E.1 E.2.1 dX10_lure_107 (by decide) (fun c25 => ?_) (fun c25 => ?_)
        · skip
          have b26 : iv 0 0 r21 := iv_eq c25 (iv_lit (lo := 0) (hi := 0) 0 (by decide) (by decide))
          refine lv_iconst (v := 0) E.1 E.2.1 dX10_lure_114 (by decide) ?_
          exact RET G rfl rfl dX10_lure_115
        · skip
          have b27 : iv 1 1 r21 := ne_lo c25 b23 (by decide) (by decide)
          refine lv_iconst (v := 1) E.1 E.2.1 dX10_lure_110 (by decide) ?_
          refine lv_goto (tgt := 115) E.1 E.2.1 dX10_lure_111 (by decide) ?_
          exact RET G rfl rfl dX10_lure_115
  · skip
    have b28 : iv 0 0 r2 := iv_eq c7 (iv_lit (lo := 0) (hi := 0) 0 (by decide) (by decide))
    refine lv_iconst (v := (-1)) E.1 E.2.1 dX10_lure_8 (by decide) ?_
    exact RET G rfl rfl dX10_lure_9
set_option maxHeartbeats 4000000 in
set_option maxRecDepth 100000 in
theorem k_walker (l : Launch) (D : va_G) (K : Nat → ClassId) (ad : Nat → Nat) (z : TS) (o : Ok z) (x1 : Int32) (x2 : Int32) : cI l yX10_walker cX10_walker 3 .int ({ frames := 1, cells := 0, slots := 0, locals := 21 }) D K ad z [.ref (ad 0), .int x1, .int x2] (fun r u => u = z) := by
  refine t_enterI (by decide) (Nat.le_of_ble_eq_true rfl) rfl rfl ?_
  intro p e s m args below meth c A R Q H locs ls E hfr hlo RET G hl
  have E : mE p s m meth c cX10_walker args 3 RX10 D K A := E
  have hl : lv_has ls 3 [(0, .ref (ad 0)), (1, .int x1), (2, .int x2)] := hl
  refine lv_aload_n E.1 E.2.1 dX10_walker_0 rfl (lv_at hl 0 rfl) ?_
  refine lv_iload_n E.1 E.2.1 dX10_walker_1 rfl (lv_at hl 1 rfl) ?_
  refine t_vi E G hl (h_walker l D K ad z o x1) 10 (rfl : ro 0 = 10) (by decide) rfl rfl 1 rfl mw_code_X10_hasWalker mw_ini_10 mw_ml_10_168 mw_inst_X10_hasWalker mw_sel_X10_hasWalker hd_X10_hasWalker ⟨Nat.le_trans (by decide) hfr, Nat.le_trans (by decide) hlo⟩ rfl rfl rfl (Nat.le_of_ble_eq_true rfl) dX10_walker_2 (fun r2 zz1 H locs hp3 G => ?_)
  obtain ⟨hz6, b4, h5⟩ := hp3
  rw [hz6] at G
  refine lv_if_ne (tgt := 10) E.1 E.2.1 dX10_walker_5 (by decide) (fun c7 => ?_) (fun c7 => ?_)
  · skip
    have b8 : iv 1 1 r2 := ne_lo c7 b4 (by decide) (by decide)
    have b9 : iv 0 4 x1 := h5 c7
    refine lv_iload_n E.1 E.2.1 dX10_walker_10 rfl (lv_at hl 2 rfl) ?_
    rcases Decidable.em (x2.toInt < 0 ∨ 4 < x2.toInt) with c10 | c10
    · refine lv_tableOut (tgt := 109) E.1 E.2.1 dX10_walker_11 c10 (by decide) ?_
      refine lv_iconst (v := (-1)) E.1 E.2.1 dX10_walker_109 (by decide) ?_
      exact RET G rfl rfl dX10_walker_110
    · rcases sw_0_4 x2 (fun h => c10 (Or.inl h)) (fun h => c10 (Or.inr h)) with ee0 | ee1 | ee2 | ee3 | ee4
      · refine lv_tableIn (off := 33) (tgt := 44) E.1 E.2.1 dX10_walker_11 (by rw [ee0]; decide) (by rw [ee0]; decide) (by rw [ee0]; decide) (by decide) ?_
        refine lv_aload_n E.1 E.2.1 dX10_walker_44 rfl (lv_at hl 0 rfl) ?_
        refine t_get E G 10 7 (rfl : ro 0 = 10) (C := RX10) (T := TX10) (N := 17) rfl (by decide) (by decide) (by decide) mw_fl_10_55 (v := .ref (ad 56)) (fvl_o (n := 56) rfl) dX10_walker_45 ?_
        refine t_get E G 2 1 (rfl : ro 56 = 2) (C := RX2) (T := TX2) (N := 5) rfl (by decide) (by decide) (by decide) mw_fl_10_121 (v := .ref (ad 70)) (fvl_o (n := 14) rfl) dX10_walker_48 ?_
        refine t_get E G 6 0 (rfl : ro 70 = 6) (C := RX6) (T := TX6) (N := 8) rfl (by decide) (by decide) (by decide) mw_fl_10_171 (v := .ref (ad 71)) (fvl_o (n := 1) rfl) dX10_walker_51 ?_
        refine lv_iload_n E.1 E.2.1 dX10_walker_54 rfl (lv_at hl 1 rfl) ?_
        refine t_iald E G 21 (rfl : ro 71 = 21) (by decide) (by decide) rfl (n := 5) rfl (iv_vp b9 (by decide) (by decide)) dX10_walker_55 ?_
        refine lv_topi (fun v12 e13 => ?_)
        have b14 : iv 0 7 v12 := by rw [e13]; exact o.ac 21 (rfl : ro 71 = 21) (by decide) _
        exact RET G rfl rfl dX10_walker_56
      · refine lv_tableIn (off := 46) (tgt := 57) E.1 E.2.1 dX10_walker_11 (by rw [ee1]; decide) (by rw [ee1]; decide) (by rw [ee1]; decide) (by decide) ?_
        refine lv_aload_n E.1 E.2.1 dX10_walker_57 rfl (lv_at hl 0 rfl) ?_
        refine t_get E G 10 7 (rfl : ro 0 = 10) (C := RX10) (T := TX10) (N := 17) rfl (by decide) (by decide) (by decide) mw_fl_10_55 (v := .ref (ad 56)) (fvl_o (n := 56) rfl) dX10_walker_58 ?_
        refine t_get E G 2 0 (rfl : ro 56 = 2) (C := RX2) (T := TX2) (N := 5) rfl (by decide) (by decide) (by decide) mw_fl_10_114 (v := .ref (ad 57)) (fvl_o (n := 1) rfl) dX10_walker_61 ?_
        refine t_get E G 8 7 (rfl : ro 57 = 8) (C := RX8) (T := TX8) (N := 10) rfl (by decide) (by decide) (by decide) mw_fl_10_174 (v := .ref (ad 61)) (fvl_o (n := 4) rfl) dX10_walker_64 ?_
        refine lv_iload_n E.1 E.2.1 dX10_walker_67 rfl (lv_at hl 1 rfl) ?_
        refine t_iald E G 25 (rfl : ro 61 = 25) (by decide) (by decide) rfl (n := 5) rfl (iv_vp b9 (by decide) (by decide)) dX10_walker_68 ?_
        refine lv_topi (fun v15 e16 => ?_)
        have b17 : iv 0 7 v15 := by rw [e16]; exact o.ac 25 (rfl : ro 61 = 25) (by decide) _
        exact RET G rfl rfl dX10_walker_69
      · refine lv_tableIn (off := 59) (tgt := 70) E.1 E.2.1 dX10_walker_11 (by rw [ee2]; decide) (by rw [ee2]; decide) (by rw [ee2]; decide) (by decide) ?_
        refine lv_aload_n E.1 E.2.1 dX10_walker_70 rfl (lv_at hl 0 rfl) ?_
        refine t_get E G 10 7 (rfl : ro 0 = 10) (C := RX10) (T := TX10) (N := 17) rfl (by decide) (by decide) (by decide) mw_fl_10_55 (v := .ref (ad 56)) (fvl_o (n := 56) rfl) dX10_walker_71 ?_
        refine t_get E G 2 1 (rfl : ro 56 = 2) (C := RX2) (T := TX2) (N := 5) rfl (by decide) (by decide) (by decide) mw_fl_10_121 (v := .ref (ad 70)) (fvl_o (n := 14) rfl) dX10_walker_74 ?_
        refine t_get E G 6 1 (rfl : ro 70 = 6) (C := RX6) (T := TX6) (N := 8) rfl (by decide) (by decide) (by decide) mw_fl_10_177 (v := .ref (ad 72)) (fvl_o (n := 2) rfl) dX10_walker_77 ?_
        refine lv_iload_n E.1 E.2.1 dX10_walker_80 rfl (lv_at hl 1 rfl) ?_
        refine t_iald E G 22 (rfl : ro 72 = 22) (by decide) (by decide) rfl (n := 5) rfl (iv_vp b9 (by decide) (by decide)) dX10_walker_81 ?_
        refine lv_topi (fun v18 e19 => ?_)
        exact RET G rfl rfl dX10_walker_82
      · refine lv_tableIn (off := 72) (tgt := 83) E.1 E.2.1 dX10_walker_11 (by rw [ee3]; decide) (by rw [ee3]; decide) (by rw [ee3]; decide) (by decide) ?_
        refine lv_aload_n E.1 E.2.1 dX10_walker_83 rfl (lv_at hl 0 rfl) ?_
        refine t_get E G 10 7 (rfl : ro 0 = 10) (C := RX10) (T := TX10) (N := 17) rfl (by decide) (by decide) (by decide) mw_fl_10_55 (v := .ref (ad 56)) (fvl_o (n := 56) rfl) dX10_walker_84 ?_
        refine t_get E G 2 1 (rfl : ro 56 = 2) (C := RX2) (T := TX2) (N := 5) rfl (by decide) (by decide) (by decide) mw_fl_10_121 (v := .ref (ad 70)) (fvl_o (n := 14) rfl) dX10_walker_87 ?_
        refine t_get E G 6 2 (rfl : ro 70 = 6) (C := RX6) (T := TX6) (N := 8) rfl (by decide) (by decide) (by decide) mw_fl_10_180 (v := .ref (ad 73)) (fvl_o (n := 3) rfl) dX10_walker_90 ?_
        refine lv_iload_n E.1 E.2.1 dX10_walker_93 rfl (lv_at hl 1 rfl) ?_
        refine t_iald E G 22 (rfl : ro 73 = 22) (by decide) (by decide) rfl (n := 5) rfl (iv_vp b9 (by decide) (by decide)) dX10_walker_94 ?_
        refine lv_topi (fun v20 e21 => ?_)
        exact RET G rfl rfl dX10_walker_95
      · refine lv_tableIn (off := 85) (tgt := 96) E.1 E.2.1 dX10_walker_11 (by rw [ee4]; decide) (by rw [ee4]; decide) (by rw [ee4]; decide) (by decide) ?_
        refine lv_aload_n E.1 E.2.1 dX10_walker_96 rfl (lv_at hl 0 rfl) ?_
        refine t_get E G 10 7 (rfl : ro 0 = 10) (C := RX10) (T := TX10) (N := 17) rfl (by decide) (by decide) (by decide) mw_fl_10_55 (v := .ref (ad 56)) (fvl_o (n := 56) rfl) dX10_walker_97 ?_
        refine t_get E G 2 1 (rfl : ro 56 = 2) (C := RX2) (T := TX2) (N := 5) rfl (by decide) (by decide) (by decide) mw_fl_10_121 (v := .ref (ad 70)) (fvl_o (n := 14) rfl) dX10_walker_100 ?_
        refine t_get E G 6 3 (rfl : ro 70 = 6) (C := RX6) (T := TX6) (N := 8) rfl (by decide) (by decide) (by decide) mw_fl_10_183 (v := .ref (ad 74)) (fvl_o (n := 4) rfl) dX10_walker_103 ?_
        refine lv_iload_n E.1 E.2.1 dX10_walker_106 rfl (lv_at hl 1 rfl) ?_
        refine t_iald E G 22 (rfl : ro 74 = 22) (by decide) (by decide) rfl (n := 5) rfl (iv_vp b9 (by decide) (by decide)) dX10_walker_107 ?_
        refine lv_topi (fun v22 e23 => ?_)
        exact RET G rfl rfl dX10_walker_108
  · skip
    have b24 : iv 0 0 r2 := iv_eq c7 (iv_lit (lo := 0) (hi := 0) 0 (by decide) (by decide))
    refine lv_iconst (v := (-1)) E.1 E.2.1 dX10_walker_8 (by decide) ?_
    exact RET G rfl rfl dX10_walker_9
set_option maxHeartbeats 4000000 in
set_option maxRecDepth 100000 in
theorem k_ways (l : Launch) (D : va_G) (K : Nat → ClassId) (ad : Nat → Nat) (z : TS) (o : Ok z) (x1 : Int32) : cI l yX10_ways cX10_ways 2 .int ({ frames := 1, cells := 0, slots := 0, locals := 21 }) D K ad z [.ref (ad 0), .int x1] (fun r u => u = z) := by
  refine t_enterI (by decide) (Nat.le_of_ble_eq_true rfl) rfl rfl ?_
  intro p e s m args below meth c A R Q H locs ls E hfr hlo RET G hl
  have E : mE p s m meth c cX10_ways args 2 RX10 D K A := E
  have hl : lv_has ls 2 [(0, .ref (ad 0)), (1, .int x1)] := hl
  refine lv_aload_n E.1 E.2.1 dX10_ways_0 rfl (lv_at hl 0 rfl) ?_
  refine lv_iload_n E.1 E.2.1 dX10_ways_1 rfl (lv_at hl 1 rfl) ?_
  refine t_vi E G hl (h_corner l D K ad z o x1) 10 (rfl : ro 0 = 10) (by decide) rfl rfl 1 rfl mw_code_X10_hasCorner mw_ini_10 mw_ml_10_186 mw_inst_X10_hasCorner mw_sel_X10_hasCorner hd_X10_hasCorner ⟨Nat.le_trans (by decide) hfr, Nat.le_trans (by decide) hlo⟩ rfl rfl rfl (Nat.le_of_ble_eq_true rfl) dX10_ways_2 (fun r2 zz1 H locs hp3 G => ?_)
  obtain ⟨hz6, b4, h5⟩ := hp3
  rw [hz6] at G
  refine lv_if_eq (tgt := 23) E.1 E.2.1 dX10_ways_5 (by decide) (fun c7 => ?_) (fun c7 => ?_)
  · skip
    have b8 : iv 0 0 r2 := iv_eq c7 (iv_lit (lo := 0) (hi := 0) 0 (by decide) (by decide))
    refine lv_iconst (v := (-1)) E.1 E.2.1 dX10_ways_23 (by decide) ?_
    exact RET G rfl rfl dX10_ways_24
  · skip
    have b9 : iv 1 1 r2 := ne_lo c7 b4 (by decide) (by decide)
    have b10 : iv 0 7 x1 := h5 c7
    refine lv_aload_n E.1 E.2.1 dX10_ways_8 rfl (lv_at hl 0 rfl) ?_
    refine t_get E G 10 7 (rfl : ro 0 = 10) (C := RX10) (T := TX10) (N := 17) rfl (by decide) (by decide) (by decide) mw_fl_10_55 (v := .ref (ad 56)) (fvl_o (n := 56) rfl) dX10_ways_9 ?_
    refine t_get E G 2 0 (rfl : ro 56 = 2) (C := RX2) (T := TX2) (N := 5) rfl (by decide) (by decide) (by decide) mw_fl_10_114 (v := .ref (ad 57)) (fvl_o (n := 1) rfl) dX10_ways_12 ?_
    refine t_get E G 8 4 (rfl : ro 57 = 8) (C := RX8) (T := TX8) (N := 10) rfl (by decide) (by decide) (by decide) mw_fl_10_189 (v := .ref (ad 58)) (fvl_o (n := 1) rfl) dX10_ways_15 ?_
    refine lv_iload_n E.1 E.2.1 dX10_ways_18 rfl (lv_at hl 1 rfl) ?_
    refine t_iald E G 24 (rfl : ro 58 = 24) (by decide) (by decide) rfl (n := 8) rfl (iv_vp b10 (by decide) (by decide)) dX10_ways_19 ?_
    refine lv_topi (fun v11 e12 => ?_)
    refine lv_goto (tgt := 24) E.1 E.2.1 dX10_ways_20 (by decide) ?_
    exact RET G rfl rfl dX10_ways_24
set_option maxHeartbeats 4000000 in
set_option maxRecDepth 100000 in
theorem k_far (l : Launch) (D : va_G) (K : Nat → ClassId) (ad : Nat → Nat) (z : TS) (o : Ok z) (x1 : Int32) : cI l yX10_far cX10_far 3 .int ({ frames := 1, cells := 0, slots := 0, locals := 22 }) D K ad z [.ref (ad 0), .int x1] (fun r u => u = z) := by
  refine t_enterI (by decide) (Nat.le_of_ble_eq_true rfl) rfl rfl ?_
  intro p e s m args below meth c A R Q H locs ls E hfr hlo RET G hl
  have E : mE p s m meth c cX10_far args 3 RX10 D K A := E
  have hl : lv_has ls 3 [(0, .ref (ad 0)), (1, .int x1)] := hl
  refine lv_aload_n E.1 E.2.1 dX10_far_0 rfl (lv_at hl 0 rfl) ?_
  refine lv_iload_n E.1 E.2.1 dX10_far_1 rfl (lv_at hl 1 rfl) ?_
  refine t_vi E G hl (h_walker l D K ad z o x1) 10 (rfl : ro 0 = 10) (by decide) rfl rfl 1 rfl mw_code_X10_hasWalker mw_ini_10 mw_ml_10_168 mw_inst_X10_hasWalker mw_sel_X10_hasWalker hd_X10_hasWalker ⟨Nat.le_trans (by decide) hfr, Nat.le_trans (by decide) hlo⟩ rfl rfl rfl (Nat.le_of_ble_eq_true rfl) dX10_far_2 (fun r2 zz1 H locs hp3 G => ?_)
  obtain ⟨hz6, b4, h5⟩ := hp3
  rw [hz6] at G
  refine lv_if_ne (tgt := 10) E.1 E.2.1 dX10_far_5 (by decide) (fun c7 => ?_) (fun c7 => ?_)
  · skip
    have b8 : iv 1 1 r2 := ne_lo c7 b4 (by decide) (by decide)
    have b9 : iv 0 4 x1 := h5 c7
    refine lv_aload_n E.1 E.2.1 dX10_far_10 rfl (lv_at hl 0 rfl) ?_
    refine t_get E G 10 7 (rfl : ro 0 = 10) (C := RX10) (T := TX10) (N := 17) rfl (by decide) (by decide) (by decide) mw_fl_10_55 (v := .ref (ad 56)) (fvl_o (n := 56) rfl) dX10_far_11 ?_
    refine t_get E G 2 0 (rfl : ro 56 = 2) (C := RX2) (T := TX2) (N := 5) rfl (by decide) (by decide) (by decide) mw_fl_10_114 (v := .ref (ad 57)) (fvl_o (n := 1) rfl) dX10_far_14 ?_
    refine lv_iload_n E.1 E.2.1 dX10_far_17 rfl (lv_at hl 1 rfl) ?_
    refine lv_aload_n E.1 E.2.1 dX10_far_18 rfl (lv_at hl 0 rfl) ?_
    refine t_get E G 10 7 (rfl : ro 0 = 10) (C := RX10) (T := TX10) (N := 17) rfl (by decide) (by decide) (by decide) mw_fl_10_55 (v := .ref (ad 56)) (fvl_o (n := 56) rfl) dX10_far_19 ?_
    refine t_get E G 2 1 (rfl : ro 56 = 2) (C := RX2) (T := TX2) (N := 5) rfl (by decide) (by decide) (by decide) mw_fl_10_121 (v := .ref (ad 70)) (fvl_o (n := 14) rfl) dX10_far_22 ?_
    refine t_get E G 6 0 (rfl : ro 70 = 6) (C := RX6) (T := TX6) (N := 8) rfl (by decide) (by decide) (by decide) mw_fl_10_171 (v := .ref (ad 71)) (fvl_o (n := 1) rfl) dX10_far_25 ?_
    refine lv_iload_n E.1 E.2.1 dX10_far_28 rfl (lv_at hl 1 rfl) ?_
    refine t_iald E G 21 (rfl : ro 71 = 21) (by decide) (by decide) rfl (n := 5) rfl (iv_vp b9 (by decide) (by decide)) dX10_far_29 ?_
    refine lv_topi (fun v10 e11 => ?_)
    have b12 : iv 0 7 v10 := by rw [e11]; exact o.ac 21 (rfl : ro 71 = 21) (by decide) _
    refine t_vi E G hl (t_waysHome l D K ad z o 57 (by decide : at_ 8 57 = true) x1 (iv_mono b9 (by decide) (by decide)) v10 (iv_mono b12 (by decide) (by decide))) 8 (rfl : ro 57 = 8) (by decide) rfl rfl 2 rfl mw_code_X8_waysHome mw_ini_8 mw_ml_10_277 mw_inst_X8_waysHome mw_sel_X8_waysHome hd_X8_waysHome ⟨Nat.le_trans (by decide) hfr, Nat.le_trans (by decide) hlo⟩ rfl rfl rfl (Nat.le_of_ble_eq_true rfl) dX10_far_30 (fun r14 zz13 H locs hp15 G => ?_)
    have hz16 := hp15
    rw [hz16] at G
    refine lv_istore_n (lv' := [(2, .int r14), (0, .ref (ad 0)), (1, .int x1)]) E.1 E.2.1 dX10_far_33 rfl hl (by decide) rfl (fun ls hl => ?_)
    refine lv_iload_n E.1 E.2.1 dX10_far_34 rfl (lv_at hl 0 rfl) ?_
    refine lv_bipush (v := 99) E.1 E.2.1 dX10_far_35 (by decide) ?_
    refine lv_icmp_ne (tgt := 45) E.1 E.2.1 dX10_far_37 (by decide) (fun c17 => ?_) (fun c17 => ?_)
    · skip
      refine lv_iload_n E.1 E.2.1 dX10_far_45 rfl (lv_at hl 0 rfl) ?_
      exact RET G rfl rfl dX10_far_46
    · skip
      have b18 : iv 99 99 r14 := iv_eq c17 (iv_lit (lo := 99) (hi := 99) 99 (by decide) (by decide))
      refine lv_bipush (v := (-2)) E.1 E.2.1 dX10_far_40 (by decide) ?_
      refine lv_goto (tgt := 46) E.1 E.2.1 dX10_far_42 (by decide) ?_
      exact RET G rfl rfl dX10_far_46
  · skip
    have b19 : iv 0 0 r2 := iv_eq c7 (iv_lit (lo := 0) (hi := 0) 0 (by decide) (by decide))
    refine lv_iconst (v := (-1)) E.1 E.2.1 dX10_far_8 (by decide) ?_
    exact RET G rfl rfl dX10_far_9
