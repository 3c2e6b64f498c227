theorem mw_cl_1_28 : (Cond.classLink RX1 28 RX8 : Cond) ∈ cw := cw_of (List.mem_append_right _ (List.mem_append_right _ (List.mem_append_left _ (List.mem_of_getElem? (i := 101) (by decide +kernel))))) (by decide +kernel)
theorem mw_cl_1_35 : (Cond.classLink RX1 35 RX4 : Cond) ∈ cw := cw_of (List.mem_append_right _ (List.mem_append_right _ (List.mem_append_left _ (List.mem_of_getElem? (i := 103) (by decide +kernel))))) (by decide +kernel)
theorem mw_cl_1_9 : (Cond.classLink RX1 9 RX6 : Cond) ∈ cw := cw_of (List.mem_append_right _ (List.mem_append_right _ (List.mem_append_left _ (List.mem_of_getElem? (i := 99) (by decide +kernel))))) (by decide +kernel)
theorem mw_cl_5_41 : (Cond.classLink RX5 41 RX4 : Cond) ∈ cw := cw_of (List.mem_append_right _ (List.mem_append_left _ (List.mem_of_getElem? (i := 200) (by decide +kernel)))) (by decide +kernel)
theorem mw_cl_5_9 : (Cond.classLink RX5 9 RX7 : Cond) ∈ cw := cw_of (List.mem_append_right _ (List.mem_append_left _ (List.mem_of_getElem? (i := 198) (by decide +kernel)))) (by decide +kernel)
theorem mw_cl_9_18 : (Cond.classLink RX9 18 RX8 : Cond) ∈ cw := cw_of (List.mem_append_right _ (List.mem_append_left _ (List.mem_of_getElem? (i := 74) (by decide +kernel)))) (by decide +kernel)
theorem mw_cl_9_9 : (Cond.classLink RX9 9 RX7 : Cond) ∈ cw := cw_of (List.mem_append_right _ (List.mem_append_left _ (List.mem_of_getElem? (i := 72) (by decide +kernel)))) (by decide +kernel)
theorem mw_code_X4_init : (Cond.code yX4_init cX4_init 1 none : Cond) ∈ cw := cw_of (List.mem_append_right _ (List.mem_append_left _ (List.mem_of_getElem? (i := 204) rfl))) (by decide +kernel)
theorem mw_code_X7_init : (Cond.code yX7_init cX7_init 1 none : Cond) ∈ cw := cw_of (List.mem_append_right _ (List.mem_append_left _ (List.mem_of_getElem? (i := 33) rfl))) (by decide +kernel)
theorem mw_code_X8_init : (Cond.code yX8_init cX8_init 1 none : Cond) ∈ cw := cw_of (List.mem_append_right _ (List.mem_append_left _ (List.mem_of_getElem? (i := 78) rfl))) (by decide +kernel)
theorem mw_fl_1_12 : (Cond.fieldLink RX1 12 "LureTown$Course" "state" "LLureTown$State;" : Cond) ∈ cw := cw_of (List.mem_append_right _ (List.mem_append_right _ (List.mem_append_left _ (List.mem_of_getElem? (i := 105) (by decide +kernel))))) (by decide +kernel)
theorem mw_fl_1_18 : (Cond.fieldLink RX1 18 "LureTown$Course" "hadBy" "[I" : Cond) ∈ cw := cw_of (List.mem_append_right _ (List.mem_append_right _ (List.mem_append_left _ (List.mem_of_getElem? (i := 107) (by decide +kernel))))) (by decide +kernel)
theorem mw_fl_1_22 : (Cond.fieldLink RX1 22 "LureTown$Course" "goals" "[I" : Cond) ∈ cw := cw_of (List.mem_append_right _ (List.mem_append_right _ (List.mem_append_left _ (List.mem_of_getElem? (i := 109) (by decide +kernel))))) (by decide +kernel)
theorem mw_fl_1_25 : (Cond.fieldLink RX1 25 "LureTown$Course" "words" "[I" : Cond) ∈ cw := cw_of (List.mem_append_right _ (List.mem_append_right _ (List.mem_append_left _ (List.mem_of_getElem? (i := 110) (by decide +kernel))))) (by decide +kernel)
theorem mw_fl_1_31 : (Cond.fieldLink RX1 31 "LureTown$Course" "town" "LLureTown$Town;" : Cond) ∈ cw := cw_of (List.mem_append_right _ (List.mem_append_right _ (List.mem_append_left _ (List.mem_of_getElem? (i := 111) (by decide +kernel))))) (by decide +kernel)
theorem mw_fl_1_38 : (Cond.fieldLink RX1 38 "LureTown$Course" "rule" "LLureTown$Rule;" : Cond) ∈ cw := cw_of (List.mem_append_right _ (List.mem_append_right _ (List.mem_append_left _ (List.mem_of_getElem? (i := 112) (by decide +kernel))))) (by decide +kernel)
theorem mw_fl_5_12 : (Cond.fieldLink RX5 12 "LureTown$RuleReader" "tape" "LLureTown$Tape;" : Cond) ∈ cw := cw_of (List.mem_append_right _ (List.mem_append_left _ (List.mem_of_getElem? (i := 228) (by decide +kernel)))) (by decide +kernel)
theorem mw_fl_5_18 : (Cond.fieldLink RX5 18 "LureTown$RuleReader" "held" "[I" : Cond) ∈ cw := cw_of (List.mem_append_right _ (List.mem_append_left _ (List.mem_of_getElem? (i := 229) (by decide +kernel)))) (by decide +kernel)
theorem mw_fl_5_22 : (Cond.fieldLink RX5 22 "LureTown$RuleReader" "heldCount" "I" : Cond) ∈ cw := cw_of (List.mem_append_right _ (List.mem_append_left _ (List.mem_of_getElem? (i := 230) (by decide +kernel)))) (by decide +kernel)
theorem mw_fl_5_26 : (Cond.fieldLink RX5 26 "LureTown$RuleReader" "depth" "I" : Cond) ∈ cw := cw_of (List.mem_append_right _ (List.mem_append_left _ (List.mem_of_getElem? (i := 231) (by decide +kernel)))) (by decide +kernel)
theorem mw_fl_5_29 : (Cond.fieldLink RX5 29 "LureTown$RuleReader" "brackets" "I" : Cond) ∈ cw := cw_of (List.mem_append_right _ (List.mem_append_left _ (List.mem_of_getElem? (i := 232) (by decide +kernel)))) (by decide +kernel)
theorem mw_fl_5_32 : (Cond.fieldLink RX5 32 "LureTown$RuleReader" "parts" "I" : Cond) ∈ cw := cw_of (List.mem_append_right _ (List.mem_append_left _ (List.mem_of_getElem? (i := 233) (by decide +kernel)))) (by decide +kernel)
theorem mw_fl_5_35 : (Cond.fieldLink RX5 35 "LureTown$RuleReader" "want" "I" : Cond) ∈ cw := cw_of (List.mem_append_right _ (List.mem_append_left _ (List.mem_of_getElem? (i := 234) (by decide +kernel)))) (by decide +kernel)
theorem mw_fl_5_38 : (Cond.fieldLink RX5 38 "LureTown$RuleReader" "side" "I" : Cond) ∈ cw := cw_of (List.mem_append_right _ (List.mem_append_left _ (List.mem_of_getElem? (i := 235) (by decide +kernel)))) (by decide +kernel)
theorem mw_fl_5_44 : (Cond.fieldLink RX5 44 "LureTown$RuleReader" "rule" "LLureTown$Rule;" : Cond) ∈ cw := cw_of (List.mem_append_right _ (List.mem_append_left _ (List.mem_of_getElem? (i := 236) (by decide +kernel)))) (by decide +kernel)
theorem mw_fl_9_12 : (Cond.fieldLink RX9 12 "LureTown$TownReader" "tape" "LLureTown$Tape;" : Cond) ∈ cw := cw_of (List.mem_append_right _ (List.mem_append_left _ (List.mem_of_getElem? (i := 182) (by decide +kernel)))) (by decide +kernel)
theorem mw_fl_9_21 : (Cond.fieldLink RX9 21 "LureTown$TownReader" "town" "LLureTown$Town;" : Cond) ∈ cw := cw_of (List.mem_append_right _ (List.mem_append_left _ (List.mem_of_getElem? (i := 183) (by decide +kernel)))) (by decide +kernel)
theorem mw_fl_9_25 : (Cond.fieldLink RX9 25 "LureTown$TownReader" "numbers" "[I" : Cond) ∈ cw := cw_of (List.mem_append_right _ (List.mem_append_left _ (List.mem_of_getElem? (i := 184) (by decide +kernel)))) (by decide +kernel)
theorem mw_ini_4 : (Cond.initialized RX4 : Cond) ∈ cw := cw_of (List.mem_append_right _ (List.mem_append_left _ (List.mem_of_getElem? (i := 7) (by decide +kernel)))) (by decide +kernel)
theorem mw_ini_7 : (Cond.initialized RX7 : Cond) ∈ cw := cw_of (List.mem_append_right _ (List.mem_append_left _ (List.mem_of_getElem? (i := 2) (by decide +kernel)))) (by decide +kernel)
theorem mw_ini_8 : (Cond.initialized RX8 : Cond) ∈ cw := cw_of (List.mem_append_right _ (List.mem_append_left _ (List.mem_of_getElem? (i := 4) (by decide +kernel)))) (by decide +kernel)
theorem mw_inst_X4_init : (Cond.instanceMethod yX4_init : Cond) ∈ cw := cw_of (List.mem_append_right _ (List.mem_append_left _ (List.mem_of_getElem? (i := 203) (by decide +kernel)))) (by decide +kernel)
theorem mw_inst_X7_init : (Cond.instanceMethod yX7_init : Cond) ∈ cw := cw_of (List.mem_append_right _ (List.mem_append_left _ (List.mem_of_getElem? (i := 32) (by decide +kernel)))) (by decide +kernel)
theorem mw_inst_X8_init : (Cond.instanceMethod yX8_init : Cond) ∈ cw := cw_of (List.mem_append_right _ (List.mem_append_left _ (List.mem_of_getElem? (i := 77) (by decide +kernel)))) (by decide +kernel)
theorem mw_insta_4 : (Cond.instantiable RX4 6 : Cond) ∈ cw := cw_of (List.mem_append_right _ (List.mem_append_left _ (List.mem_of_getElem? (i := 201) (by decide +kernel)))) (by decide +kernel)
theorem mw_insta_7 : (Cond.instantiable RX7 7 : Cond) ∈ cw := cw_of (List.mem_append_right _ (List.mem_append_left _ (List.mem_of_getElem? (i := 30) (by decide +kernel)))) (by decide +kernel)
theorem mw_insta_8 : (Cond.instantiable RX8 10 : Cond) ∈ cw := cw_of (List.mem_append_right _ (List.mem_append_left _ (List.mem_of_getElem? (i := 75) (by decide +kernel)))) (by decide +kernel)
theorem mw_ml_1_3 : (Cond.methodLink RX1 3 Lib.objectInit : Cond) ∈ cw := cw_of (List.mem_append_right _ (List.mem_append_right _ (List.mem_append_left _ (List.mem_of_getElem? (i := 98) (by decide +kernel))))) (by decide +kernel)
theorem mw_ml_5_3 : (Cond.methodLink RX5 3 Lib.objectInit : Cond) ∈ cw := cw_of (List.mem_append_right _ (List.mem_append_left _ (List.mem_of_getElem? (i := 197) (by decide +kernel)))) (by decide +kernel)
theorem mw_ml_9_3 : (Cond.methodLink RX9 3 Lib.objectInit : Cond) ∈ cw := cw_of (List.mem_append_right _ (List.mem_append_left _ (List.mem_of_getElem? (i := 71) (by decide +kernel)))) (by decide +kernel)
theorem mw_mn_1_11 : (Cond.methodLinkNest RX1 11 yX6_init "LureTown" : Cond) ∈ cw := cw_of (List.mem_append_right _ (List.mem_append_right _ (List.mem_append_left _ (List.mem_of_getElem? (i := 100) (by decide +kernel))))) (by decide +kernel)
theorem mw_mn_1_30 : (Cond.methodLinkNest RX1 30 yX8_init "LureTown" : Cond) ∈ cw := cw_of (List.mem_append_right _ (List.mem_append_right _ (List.mem_append_left _ (List.mem_of_getElem? (i := 102) (by decide +kernel))))) (by decide +kernel)
theorem mw_mn_1_37 : (Cond.methodLinkNest RX1 37 yX4_init "LureTown" : Cond) ∈ cw := cw_of (List.mem_append_right _ (List.mem_append_right _ (List.mem_append_left _ (List.mem_of_getElem? (i := 104) (by decide +kernel))))) (by decide +kernel)
theorem mw_mn_5_11 : (Cond.methodLinkNest RX5 11 yX7_init "LureTown" : Cond) ∈ cw := cw_of (List.mem_append_right _ (List.mem_append_left _ (List.mem_of_getElem? (i := 199) (by decide +kernel)))) (by decide +kernel)
theorem mw_mn_5_43 : (Cond.methodLinkNest RX5 43 yX4_init "LureTown" : Cond) ∈ cw := cw_of (List.mem_append_right _ (List.mem_append_left _ (List.mem_of_getElem? (i := 202) (by decide +kernel)))) (by decide +kernel)
theorem mw_mn_9_11 : (Cond.methodLinkNest RX9 11 yX7_init "LureTown" : Cond) ∈ cw := cw_of (List.mem_append_right _ (List.mem_append_left _ (List.mem_of_getElem? (i := 73) (by decide +kernel)))) (by decide +kernel)
theorem mw_mn_9_20 : (Cond.methodLinkNest RX9 20 yX8_init "LureTown" : Cond) ∈ cw := cw_of (List.mem_append_right _ (List.mem_append_left _ (List.mem_of_getElem? (i := 76) (by decide +kernel)))) (by decide +kernel)
theorem dX1_init_0 : decode cX1_init 0 = .ok (.aload_n 0, 1) := by decide +kernel
theorem dX1_init_1 : decode cX1_init 1 = .ok (.invokespecial 3, 3) := by decide +kernel
theorem dX1_init_4 : decode cX1_init 4 = .ok (.aload_n 0, 1) := by decide +kernel
theorem dX1_init_5 : decode cX1_init 5 = .ok (.new 9, 3) := by decide +kernel
theorem dX1_init_8 : decode cX1_init 8 = .ok (.dup, 1) := by decide +kernel
theorem dX1_init_9 : decode cX1_init 9 = .ok (.invokespecial 11, 3) := by decide +kernel
theorem dX1_init_12 : decode cX1_init 12 = .ok (.putfield 12, 3) := by decide +kernel
theorem dX1_init_15 : decode cX1_init 15 = .ok (.aload_n 0, 1) := by decide +kernel
theorem dX1_init_16 : decode cX1_init 16 = .ok (.iconst 5, 1) := by decide +kernel
theorem dX1_init_17 : decode cX1_init 17 = .ok (.newarray .int, 2) := by decide +kernel
theorem dX1_init_19 : decode cX1_init 19 = .ok (.putfield 18, 3) := by decide +kernel
theorem dX1_init_22 : decode cX1_init 22 = .ok (.aload_n 0, 1) := by decide +kernel
theorem dX1_init_23 : decode cX1_init 23 = .ok (.iconst 5, 1) := by decide +kernel
theorem dX1_init_24 : decode cX1_init 24 = .ok (.newarray .int, 2) := by decide +kernel
theorem dX1_init_26 : decode cX1_init 26 = .ok (.putfield 22, 3) := by decide +kernel
theorem dX1_init_29 : decode cX1_init 29 = .ok (.aload_n 0, 1) := by decide +kernel
theorem dX1_init_30 : decode cX1_init 30 = .ok (.bipush 11, 2) := by decide +kernel
theorem dX1_init_32 : decode cX1_init 32 = .ok (.newarray .int, 2) := by decide +kernel
theorem dX1_init_34 : decode cX1_init 34 = .ok (.putfield 25, 3) := by decide +kernel
theorem dX1_init_37 : decode cX1_init 37 = .ok (.aload_n 0, 1) := by decide +kernel
theorem dX1_init_38 : decode cX1_init 38 = .ok (.new 28, 3) := by decide +kernel
theorem dX1_init_41 : decode cX1_init 41 = .ok (.dup, 1) := by decide +kernel
theorem dX1_init_42 : decode cX1_init 42 = .ok (.invokespecial 30, 3) := by decide +kernel
theorem dX1_init_45 : decode cX1_init 45 = .ok (.putfield 31, 3) := by decide +kernel
theorem dX1_init_48 : decode cX1_init 48 = .ok (.aload_n 0, 1) := by decide +kernel
theorem dX1_init_49 : decode cX1_init 49 = .ok (.new 35, 3) := by decide +kernel
theorem dX1_init_52 : decode cX1_init 52 = .ok (.dup, 1) := by decide +kernel
theorem dX1_init_53 : decode cX1_init 53 = .ok (.invokespecial 37, 3) := by decide +kernel
theorem dX1_init_56 : decode cX1_init 56 = .ok (.putfield 38, 3) := by decide +kernel
theorem dX1_init_59 : decode cX1_init 59 = .ok (.return_, 1) := by decide +kernel
theorem dX5_init_0 : decode cX5_init 0 = .ok (.aload_n 0, 1) := by decide +kernel
theorem dX5_init_1 : decode cX5_init 1 = .ok (.invokespecial 3, 3) := by decide +kernel
theorem dX5_init_4 : decode cX5_init 4 = .ok (.aload_n 0, 1) := by decide +kernel
theorem dX5_init_5 : decode cX5_init 5 = .ok (.new 9, 3) := by decide +kernel
theorem dX5_init_8 : decode cX5_init 8 = .ok (.dup, 1) := by decide +kernel
theorem dX5_init_9 : decode cX5_init 9 = .ok (.invokespecial 11, 3) := by decide +kernel
theorem dX5_init_12 : decode cX5_init 12 = .ok (.putfield 12, 3) := by decide +kernel
theorem dX5_init_15 : decode cX5_init 15 = .ok (.aload_n 0, 1) := by decide +kernel
theorem dX5_init_16 : decode cX5_init 16 = .ok (.sipush 400, 3) := by decide +kernel
theorem dX5_init_19 : decode cX5_init 19 = .ok (.newarray .int, 2) := by decide +kernel
theorem dX5_init_21 : decode cX5_init 21 = .ok (.putfield 18, 3) := by decide +kernel
theorem dX5_init_24 : decode cX5_init 24 = .ok (.aload_n 0, 1) := by decide +kernel
theorem dX5_init_25 : decode cX5_init 25 = .ok (.iconst 0, 1) := by decide +kernel
theorem dX5_init_26 : decode cX5_init 26 = .ok (.putfield 22, 3) := by decide +kernel
theorem dX5_init_29 : decode cX5_init 29 = .ok (.aload_n 0, 1) := by decide +kernel
theorem dX5_init_30 : decode cX5_init 30 = .ok (.iconst 0, 1) := by decide +kernel
theorem dX5_init_31 : decode cX5_init 31 = .ok (.putfield 26, 3) := by decide +kernel
theorem dX5_init_34 : decode cX5_init 34 = .ok (.aload_n 0, 1) := by decide +kernel
theorem dX5_init_35 : decode cX5_init 35 = .ok (.iconst 0, 1) := by decide +kernel
theorem dX5_init_36 : decode cX5_init 36 = .ok (.putfield 29, 3) := by decide +kernel
theorem dX5_init_39 : decode cX5_init 39 = .ok (.aload_n 0, 1) := by decide +kernel
theorem dX5_init_40 : decode cX5_init 40 = .ok (.iconst 0, 1) := by decide +kernel
theorem dX5_init_41 : decode cX5_init 41 = .ok (.putfield 32, 3) := by decide +kernel
theorem dX5_init_44 : decode cX5_init 44 = .ok (.aload_n 0, 1) := by decide +kernel
theorem dX5_init_45 : decode cX5_init 45 = .ok (.iconst 0, 1) := by decide +kernel
theorem dX5_init_46 : decode cX5_init 46 = .ok (.putfield 35, 3) := by decide +kernel
theorem dX5_init_49 : decode cX5_init 49 = .ok (.aload_n 0, 1) := by decide +kernel
theorem dX5_init_50 : decode cX5_init 50 = .ok (.iconst 0, 1) := by decide +kernel
theorem dX5_init_51 : decode cX5_init 51 = .ok (.putfield 38, 3) := by decide +kernel
theorem dX5_init_54 : decode cX5_init 54 = .ok (.aload_n 0, 1) := by decide +kernel
theorem dX5_init_55 : decode cX5_init 55 = .ok (.new 41, 3) := by decide +kernel
theorem dX5_init_58 : decode cX5_init 58 = .ok (.dup, 1) := by decide +kernel
theorem dX5_init_59 : decode cX5_init 59 = .ok (.invokespecial 43, 3) := by decide +kernel
theorem dX5_init_62 : decode cX5_init 62 = .ok (.putfield 44, 3) := by decide +kernel
theorem dX5_init_65 : decode cX5_init 65 = .ok (.return_, 1) := by decide +kernel
theorem dX9_init_0 : decode cX9_init 0 = .ok (.aload_n 0, 1) := by decide +kernel
theorem dX9_init_1 : decode cX9_init 1 = .ok (.invokespecial 3, 3) := by decide +kernel
theorem dX9_init_4 : decode cX9_init 4 = .ok (.aload_n 0, 1) := by decide +kernel
theorem dX9_init_5 : decode cX9_init 5 = .ok (.new 9, 3) := by decide +kernel
theorem dX9_init_8 : decode cX9_init 8 = .ok (.dup, 1) := by decide +kernel
theorem dX9_init_9 : decode cX9_init 9 = .ok (.invokespecial 11, 3) := by decide +kernel
theorem dX9_init_12 : decode cX9_init 12 = .ok (.putfield 12, 3) := by decide +kernel
theorem dX9_init_15 : decode cX9_init 15 = .ok (.aload_n 0, 1) := by decide +kernel
theorem dX9_init_16 : decode cX9_init 16 = .ok (.new 18, 3) := by decide +kernel
theorem dX9_init_19 : decode cX9_init 19 = .ok (.dup, 1) := by decide +kernel
theorem dX9_init_20 : decode cX9_init 20 = .ok (.invokespecial 20, 3) := by decide +kernel
theorem dX9_init_23 : decode cX9_init 23 = .ok (.putfield 21, 3) := by decide +kernel
theorem dX9_init_26 : decode cX9_init 26 = .ok (.aload_n 0, 1) := by decide +kernel
theorem dX9_init_27 : decode cX9_init 27 = .ok (.iconst 4, 1) := by decide +kernel
theorem dX9_init_28 : decode cX9_init 28 = .ok (.newarray .int, 2) := by decide +kernel
theorem dX9_init_30 : decode cX9_init 30 = .ok (.putfield 25, 3) := by decide +kernel
theorem dX9_init_33 : decode cX9_init 33 = .ok (.return_, 1) := by decide +kernel
theorem hd_X4_init : yX4_init.cls ≠ "java/lang/invoke/MethodHandle" ∧ yX4_init.cls ≠ "java/lang/invoke/VarHandle" ∧ (parseMethodDescriptor yX4_init.desc).map (fun d => d.parameters.length) = some 0 := ⟨by decide +kernel, by decide +kernel, by decide +kernel⟩
theorem hd_X7_init : yX7_init.cls ≠ "java/lang/invoke/MethodHandle" ∧ yX7_init.cls ≠ "java/lang/invoke/VarHandle" ∧ (parseMethodDescriptor yX7_init.desc).map (fun d => d.parameters.length) = some 0 := ⟨by decide +kernel, by decide +kernel, by decide +kernel⟩
theorem hd_X8_init : yX8_init.cls ≠ "java/lang/invoke/MethodHandle" ∧ yX8_init.cls ≠ "java/lang/invoke/VarHandle" ∧ (parseMethodDescriptor yX8_init.desc).map (fun d => d.parameters.length) = some 0 := ⟨by decide +kernel, by decide +kernel, by decide +kernel⟩
theorem fr_X4 : ∀ j, j < 6 → defaultValue (cls_ty 4 j) = vp_V [.int 0, .null, .int 0, .null, .null, .null] j := by
  intro j hj
  match j, hj with
  | 0, _ => rfl
  | 1, _ => rfl
  | 2, _ => rfl
  | 3, _ => rfl
  | 4, _ => rfl
  | 5, _ => rfl
  | k + 6, h => exact absurd h (by omega)
theorem fr_X7 : ∀ j, j < 7 → defaultValue (cls_ty 7 j) = vp_V [.null, .int 0, .int 0, .int 0, .int 0, .int 0, .int 0] j := by
  intro j hj
  match j, hj with
  | 0, _ => rfl
  | 1, _ => rfl
  | 2, _ => rfl
  | 3, _ => rfl
  | 4, _ => rfl
  | 5, _ => rfl
  | 6, _ => rfl
  | k + 7, h => exact absurd h (by omega)
theorem fr_X8 : ∀ j, j < 10 → defaultValue (cls_ty 8 j) = vp_V [.int 0, .int 0, .int 0, .int 0, .null, .null, .null, .null, .null, .null] j := by
  intro j hj
  match j, hj with
  | 0, _ => rfl
  | 1, _ => rfl
  | 2, _ => rfl
  | 3, _ => rfl
  | 4, _ => rfl
  | 5, _ => rfl
  | 6, _ => rfl
  | 7, _ => rfl
  | 8, _ => rfl
  | 9, _ => rfl
  | k + 10, h => exact absurd h (by omega)
set_option maxHeartbeats 4000000 in
set_option maxRecDepth 100000 in
/-- TownReader() -/
theorem c_TR_init (l : Launch) (D : va_G) (K : Nat → ClassId) (h0 : Nat) : mV (S := mU) l yX9_init cX9_init 1 ({ frames := 3, cells := 16, slots := 550, locals := 60 }) D K [(h0, .inr (9, [.null, .null, .null]))] [.ref h0] (fun u => True) (fun u => [(h0, .inr (9, [.ref (u.1 0), .ref (u.1 1), .ref (u.1 2)]))]) := by
  refine m_enterV (by decide) (Nat.le_of_ble_eq_true rfl) ?_
  intro p e s m args below meth c A ls E hr hN G hl
  have E : mE p s m meth c cX9_init args 1 RX9 D K A := E
  have hl : lv_has ls 1 [(0, .ref h0)] := hl
  obtain ⟨H, hH⟩ : ∃ H, H = s.heap := ⟨_, rfl⟩
  obtain ⟨locs, hlo⟩ : ∃ L : List Loc, L = [] := ⟨_, rfl⟩
  rw [← hH, ← hlo] at G
  rw [← hH, ← hlo]
  have G : mG D A s H locs [(h0, .inr (9, [.null, .null, .null]))] := G
  clear hH hlo
  refine lv_aload_n E.1 E.2.1 dX9_init_0 rfl (lv_at hl 0 rfl) ?_
  refine m_objInit E hl mw_ml_9_3 dX9_init_1 (by decide) (Nat.le_of_ble_eq_true rfl) (by decide) ?_
  refine lv_aload_n E.1 E.2.1 dX9_init_4 rfl (lv_at hl 0 rfl) ?_
  refine m_new E G 7 (C := RX7) (T := TX7) (N := 7) rfl fr_X7 mw_cl_9_9 mw_insta_7 mw_ini_7 (by decide) (by decide) dX9_init_5 (fun q_1 H G => ?_)
  have G : mG D A s H locs [(h0, .inr (9, [.null, .null, .null])), (q_1, .inr (7, [.null, .int 0, .int 0, .int 0, .int 0, .int 0, .int 0]))] := G
  refine lv_dup E.1 E.2.1 dX9_init_8 rfl ?_
  refine m_in E G hl (c_Tape_init l D K q_1) (wr := [(h0, .inr (9, [.null, .null, .null]))]) [1] [0] rfl rfl (by decide) (by decide) (by decide) 0 rfl rfl mw_code_X7_init mw_ini_7 mw_mn_9_11 mw_inst_X7_init hd_X7_init ⟨by decide, by decide⟩ rfl (Nat.le_of_ble_eq_true rfl) ⟨by decide, by decide⟩ dX9_init_9 (fun u_2 H locs hp G => ?_)
  have G : mG D A s H locs [(h0, .inr (9, [.null, .null, .null])), (q_1, .inr (7, [.ref (u_2.1 0), .int 0, .int 0, .int 40, .int 0, .int 0, .int 0])), ((u_2.1 0), .inl (K 1, 400, .inl (fun _ => 0)))] := G
  have G : mG D A s H locs [(h0, .inr (9, [.null, .null, .null]))] := G.sub [0] (by decide) rfl
  refine m_put E G 0 (ci := 9) rfl 0 (C := RX9) (T := TX9) (N := 3) rfl (by decide) mw_fl_9_12 rfl rfl rfl (Nat.le_of_ble_eq_true rfl) dX9_init_12 (fun H locs G => ?_)
  have G : mG D A s H locs [(h0, .inr (9, [.ref q_1, .null, .null]))] := G
  refine lv_aload_n E.1 E.2.1 dX9_init_15 rfl (lv_at hl 0 rfl) ?_
  refine m_new E G 8 (C := RX8) (T := TX8) (N := 10) rfl fr_X8 mw_cl_9_18 mw_insta_8 mw_ini_8 (by decide) (by decide) dX9_init_16 (fun q_4 H G => ?_)
  have G : mG D A s H locs [(h0, .inr (9, [.ref q_1, .null, .null])), (q_4, .inr (8, [.int 0, .int 0, .int 0, .int 0, .null, .null, .null, .null, .null, .null]))] := G
  refine lv_dup E.1 E.2.1 dX9_init_19 rfl ?_
  refine m_in E G hl (c_Town_init l D K q_4) (wr := [(h0, .inr (9, [.ref q_1, .null, .null]))]) [1] [0] rfl rfl (by decide) (by decide) (by decide) 0 rfl rfl mw_code_X8_init mw_ini_8 mw_mn_9_20 mw_inst_X8_init hd_X8_init ⟨by decide, by decide⟩ rfl (Nat.le_of_ble_eq_true rfl) ⟨by decide, by decide⟩ dX9_init_20 (fun u_5 H locs hp G => ?_)
  have G : mG D A s H locs [(h0, .inr (9, [.ref q_1, .null, .null])), (q_4, .inr (8, [.int 0, .int 0, .int 0, .int 0, .ref (u_5.1 0), .ref (u_5.1 1), .ref (u_5.1 2), .ref (u_5.1 3), .ref (u_5.1 4), .ref (u_5.1 11)])), ((u_5.1 0), .inl (K 0, 8, .inl (fun _ => 0))), ((u_5.1 1), .inl (K 0, 6, .inl (fun _ => 0))), ((u_5.1 2), .inl (K 0, 6, .inl (fun _ => 0))), ((u_5.1 3), .inl (K 0, 5, .inl (fun _ => 0))), ((u_5.1 4), .inr (6, [.ref (u_5.1 5), .ref (u_5.1 6), .ref (u_5.1 7), .ref (u_5.1 8), .ref (u_5.1 9), .ref (u_5.1 10), .int 0, .int 0])), ((u_5.1 5), .inl (K 0, 5, .inl (fun _ => 0))), ((u_5.1 6), .inl (K 0, 5, .inl (fun _ => 0))), ((u_5.1 7), .inl (K 0, 5, .inl (fun _ => 0))), ((u_5.1 8), .inl (K 0, 5, .inl (fun _ => 0))), ((u_5.1 9), .inl (K 0, 6, .inl (fun _ => 0))), ((u_5.1 10), .inl (K 0, 6, .inl (fun _ => 0))), ((u_5.1 11), .inl (K 0, 64, .inl (fun _ => 0)))] := G
  have G : mG D A s H locs [(h0, .inr (9, [.ref q_1, .null, .null]))] := G.sub [0] (by decide) rfl
  refine m_put E G 0 (ci := 9) rfl 1 (C := RX9) (T := TX9) (N := 3) rfl (by decide) mw_fl_9_21 rfl rfl rfl (Nat.le_of_ble_eq_true rfl) dX9_init_23 (fun H locs G => ?_)
  have G : mG D A s H locs [(h0, .inr (9, [.ref q_1, .ref q_4, .null]))] := G
  refine lv_aload_n E.1 E.2.1 dX9_init_26 rfl (lv_at hl 0 rfl) ?_
  refine lv_iconst (v := 4) E.1 E.2.1 dX9_init_27 (by decide) ?_
  refine m_newi E G (N' := 4) (by decide) (by decide) (by decide) (by decide) (by decide) dX9_init_28 (fun q_7 H G => ?_)
  have G : mG D A s H locs [(h0, .inr (9, [.ref q_1, .ref q_4, .null])), (q_7, .inl (K 0, 4, .inl (fun _ => 0)))] := G
  refine m_putF E G hN 0 (ci := 9) rfl 2 (C := RX9) (T := TX9) (N := 3) rfl (by decide) mw_fl_9_25 rfl rfl rfl rfl (Nat.le_of_ble_eq_true rfl) dX9_init_30 (fun H locs G => ?_)
  have G : mG D A s H locs [(h0, .inr (9, [.ref q_1, .ref q_4, .ref q_7])), (q_7, .inl (K 0, 4, .inl (fun _ => 0)))] := G
  exact m_retv E G hr (fun k => [q_1, q_4, q_7].getD k 0, fun _ _ => 0, fun _ _ => none) trivial [0] (by decide) rfl (by decide) (by decide) dX9_init_33
set_option maxHeartbeats 4000000 in
set_option maxRecDepth 100000 in
/-- RuleReader() -/
theorem c_RR_init (l : Launch) (D : va_G) (K : Nat → ClassId) (h0 : Nat) : mV (S := mU) l yX5_init cX5_init 1 ({ frames := 2, cells := 8, slots := 1300, locals := 40 }) D K [(h0, .inr (5, [.null, .null, .int 0, .int 0, .int 0, .int 0, .int 0, .int 0, .null]))] [.ref h0] (fun u => True) (fun u => [(h0, .inr (5, [.ref (u.1 0), .ref (u.1 1), .int 0, .int 0, .int 0, .int 0, .int 0, .int 0, .ref (u.1 2)]))]) := by
  refine m_enterV (by decide) (Nat.le_of_ble_eq_true rfl) ?_
  intro p e s m args below meth c A ls E hr hN G hl
  have E : mE p s m meth c cX5_init args 1 RX5 D K A := E
  have hl : lv_has ls 1 [(0, .ref h0)] := hl
  obtain ⟨H, hH⟩ : ∃ H, H = s.heap := ⟨_, rfl⟩
  obtain ⟨locs, hlo⟩ : ∃ L : List Loc, L = [] := ⟨_, rfl⟩
  rw [← hH, ← hlo] at G
  rw [← hH, ← hlo]
  have G : mG D A s H locs [(h0, .inr (5, [.null, .null, .int 0, .int 0, .int 0, .int 0, .int 0, .int 0, .null]))] := G
  clear hH hlo
  refine lv_aload_n E.1 E.2.1 dX5_init_0 rfl (lv_at hl 0 rfl) ?_
  refine m_objInit E hl mw_ml_5_3 dX5_init_1 (by decide) (Nat.le_of_ble_eq_true rfl) (by decide) ?_
  refine lv_aload_n E.1 E.2.1 dX5_init_4 rfl (lv_at hl 0 rfl) ?_
  refine m_new E G 7 (C := RX7) (T := TX7) (N := 7) rfl fr_X7 mw_cl_5_9 mw_insta_7 mw_ini_7 (by decide) (by decide) dX5_init_5 (fun q_1 H G => ?_)
  have G : mG D A s H locs [(h0, .inr (5, [.null, .null, .int 0, .int 0, .int 0, .int 0, .int 0, .int 0, .null])), (q_1, .inr (7, [.null, .int 0, .int 0, .int 0, .int 0, .int 0, .int 0]))] := G
  refine lv_dup E.1 E.2.1 dX5_init_8 rfl ?_
  refine m_in E G hl (c_Tape_init l D K q_1) (wr := [(h0, .inr (5, [.null, .null, .int 0, .int 0, .int 0, .int 0, .int 0, .int 0, .null]))]) [1] [0] rfl rfl (by decide) (by decide) (by decide) 0 rfl rfl mw_code_X7_init mw_ini_7 mw_mn_5_11 mw_inst_X7_init hd_X7_init ⟨by decide, by decide⟩ rfl (Nat.le_of_ble_eq_true rfl) ⟨by decide, by decide⟩ dX5_init_9 (fun u_2 H locs hp G => ?_)
  have G : mG D A s H locs [(h0, .inr (5, [.null, .null, .int 0, .int 0, .int 0, .int 0, .int 0, .int 0, .null])), (q_1, .inr (7, [.ref (u_2.1 0), .int 0, .int 0, .int 40, .int 0, .int 0, .int 0])), ((u_2.1 0), .inl (K 1, 400, .inl (fun _ => 0)))] := G
  have G : mG D A s H locs [(h0, .inr (5, [.null, .null, .int 0, .int 0, .int 0, .int 0, .int 0, .int 0, .null]))] := G.sub [0] (by decide) rfl
  refine m_put E G 0 (ci := 5) rfl 0 (C := RX5) (T := TX5) (N := 9) rfl (by decide) mw_fl_5_12 rfl rfl rfl (Nat.le_of_ble_eq_true rfl) dX5_init_12 (fun H locs G => ?_)
  have G : mG D A s H locs [(h0, .inr (5, [.ref q_1, .null, .int 0, .int 0, .int 0, .int 0, .int 0, .int 0, .null]))] := G
  refine lv_aload_n E.1 E.2.1 dX5_init_15 rfl (lv_at hl 0 rfl) ?_
  refine lv_sipush (v := 400) E.1 E.2.1 dX5_init_16 (by decide) ?_
  refine m_newi E G (N' := 400) (by decide) (by decide) (by decide) (by decide) (by decide) dX5_init_19 (fun q_4 H G => ?_)
  have G : mG D A s H locs [(h0, .inr (5, [.ref q_1, .null, .int 0, .int 0, .int 0, .int 0, .int 0, .int 0, .null])), (q_4, .inl (K 0, 400, .inl (fun _ => 0)))] := G
  refine m_putF E G hN 0 (ci := 5) rfl 1 (C := RX5) (T := TX5) (N := 9) rfl (by decide) mw_fl_5_18 rfl rfl rfl rfl (Nat.le_of_ble_eq_true rfl) dX5_init_21 (fun H locs G => ?_)
  have G : mG D A s H locs [(h0, .inr (5, [.ref q_1, .ref q_4, .int 0, .int 0, .int 0, .int 0, .int 0, .int 0, .null])), (q_4, .inl (K 0, 400, .inl (fun _ => 0)))] := G
  refine lv_aload_n E.1 E.2.1 dX5_init_24 rfl (lv_at hl 0 rfl) ?_
  refine lv_iconst (v := 0) E.1 E.2.1 dX5_init_25 (by decide) ?_
  refine m_put E G 0 (ci := 5) rfl 2 (C := RX5) (T := TX5) (N := 9) rfl (by decide) mw_fl_5_22 rfl rfl rfl (Nat.le_of_ble_eq_true rfl) dX5_init_26 (fun H locs G => ?_)
  have G : mG D A s H locs [(h0, .inr (5, [.ref q_1, .ref q_4, .int 0, .int 0, .int 0, .int 0, .int 0, .int 0, .null])), (q_4, .inl (K 0, 400, .inl (fun _ => 0)))] := G
  refine lv_aload_n E.1 E.2.1 dX5_init_29 rfl (lv_at hl 0 rfl) ?_
  refine lv_iconst (v := 0) E.1 E.2.1 dX5_init_30 (by decide) ?_
  refine m_put E G 0 (ci := 5) rfl 3 (C := RX5) (T := TX5) (N := 9) rfl (by decide) mw_fl_5_26 rfl rfl rfl (Nat.le_of_ble_eq_true rfl) dX5_init_31 (fun H locs G => ?_)
  have G : mG D A s H locs [(h0, .inr (5, [.ref q_1, .ref q_4, .int 0, .int 0, .int 0, .int 0, .int 0, .int 0, .null])), (q_4, .inl (K 0, 400, .inl (fun _ => 0)))] := G
  refine lv_aload_n E.1 E.2.1 dX5_init_34 rfl (lv_at hl 0 rfl) ?_
  refine lv_iconst (v := 0) E.1 E.2.1 dX5_init_35 (by decide) ?_
  refine m_put E G 0 (ci := 5) rfl 4 (C := RX5) (T := TX5) (N := 9) rfl (by decide) mw_fl_5_29 rfl rfl rfl (Nat.le_of_ble_eq_true rfl) dX5_init_36 (fun H locs G => ?_)
  have G : mG D A s H locs [(h0, .inr (5, [.ref q_1, .ref q_4, .int 0, .int 0, .int 0, .int 0, .int 0, .int 0, .null])), (q_4, .inl (K 0, 400, .inl (fun _ => 0)))] := G
  refine lv_aload_n E.1 E.2.1 dX5_init_39 rfl (lv_at hl 0 rfl) ?_
  refine lv_iconst (v := 0) E.1 E.2.1 dX5_init_40 (by decide) ?_
  refine m_put E G 0 (ci := 5) rfl 5 (C := RX5) (T := TX5) (N := 9) rfl (by decide) mw_fl_5_32 rfl rfl rfl (Nat.le_of_ble_eq_true rfl) dX5_init_41 (fun H locs G => ?_)
  have G : mG D A s H locs [(h0, .inr (5, [.ref q_1, .ref q_4, .int 0, .int 0, .int 0, .int 0, .int 0, .int 0, .null])), (q_4, .inl (K 0, 400, .inl (fun _ => 0)))] := G
  refine lv_aload_n E.1 E.2.1 dX5_init_44 rfl (lv_at hl 0 rfl) ?_
  refine lv_iconst (v := 0) E.1 E.2.1 dX5_init_45 (by decide) ?_
  refine m_put E G 0 (ci := 5) rfl 6 (C := RX5) (T := TX5) (N := 9) rfl (by decide) mw_fl_5_35 rfl rfl rfl (Nat.le_of_ble_eq_true rfl) dX5_init_46 (fun H locs G => ?_)
  have G : mG D A s H locs [(h0, .inr (5, [.ref q_1, .ref q_4, .int 0, .int 0, .int 0, .int 0, .int 0, .int 0, .null])), (q_4, .inl (K 0, 400, .inl (fun _ => 0)))] := G
  refine lv_aload_n E.1 E.2.1 dX5_init_49 rfl (lv_at hl 0 rfl) ?_
  refine lv_iconst (v := 0) E.1 E.2.1 dX5_init_50 (by decide) ?_
  refine m_put E G 0 (ci := 5) rfl 7 (C := RX5) (T := TX5) (N := 9) rfl (by decide) mw_fl_5_38 rfl rfl rfl (Nat.le_of_ble_eq_true rfl) dX5_init_51 (fun H locs G => ?_)
  have G : mG D A s H locs [(h0, .inr (5, [.ref q_1, .ref q_4, .int 0, .int 0, .int 0, .int 0, .int 0, .int 0, .null])), (q_4, .inl (K 0, 400, .inl (fun _ => 0)))] := G
  refine lv_aload_n E.1 E.2.1 dX5_init_54 rfl (lv_at hl 0 rfl) ?_
  refine m_new E G 4 (C := RX4) (T := TX4) (N := 6) rfl fr_X4 mw_cl_5_41 mw_insta_4 mw_ini_4 (by decide) (by decide) dX5_init_55 (fun q_5 H G => ?_)
  have G : mG D A s H locs [(h0, .inr (5, [.ref q_1, .ref q_4, .int 0, .int 0, .int 0, .int 0, .int 0, .int 0, .null])), (q_4, .inl (K 0, 400, .inl (fun _ => 0))), (q_5, .inr (4, [.int 0, .null, .int 0, .null, .null, .null]))] := G
  refine lv_dup E.1 E.2.1 dX5_init_58 rfl ?_
  refine m_in E G hl (c_Rule_init l D K q_5) (wr := [(h0, .inr (5, [.ref q_1, .ref q_4, .int 0, .int 0, .int 0, .int 0, .int 0, .int 0, .null])), (q_4, .inl (K 0, 400, .inl (fun _ => 0)))]) [2] [0, 1] rfl rfl (by decide) (by decide) (by decide) 0 rfl rfl mw_code_X4_init mw_ini_4 mw_mn_5_43 mw_inst_X4_init hd_X4_init ⟨by decide, by decide⟩ rfl (Nat.le_of_ble_eq_true rfl) ⟨by decide, by decide⟩ dX5_init_59 (fun u_6 H locs hp G => ?_)
  have G : mG D A s H locs [(h0, .inr (5, [.ref q_1, .ref q_4, .int 0, .int 0, .int 0, .int 0, .int 0, .int 0, .null])), (q_4, .inl (K 0, 400, .inl (fun _ => 0))), (q_5, .inr (4, [.int 0, .ref (u_6.1 0), .int 0, .ref (u_6.1 1), .ref (u_6.1 2), .ref (u_6.1 3)])), ((u_6.1 2), .inl (K 0, 13, .inl (fun _ => 0)))] := G
  have G : mG D A s H locs [(h0, .inr (5, [.ref q_1, .ref q_4, .int 0, .int 0, .int 0, .int 0, .int 0, .int 0, .null]))] := G.sub [0] (by decide) rfl
  refine m_put E G 0 (ci := 5) rfl 8 (C := RX5) (T := TX5) (N := 9) rfl (by decide) mw_fl_5_44 rfl rfl rfl (Nat.le_of_ble_eq_true rfl) dX5_init_62 (fun H locs G => ?_)
  have G : mG D A s H locs [(h0, .inr (5, [.ref q_1, .ref q_4, .int 0, .int 0, .int 0, .int 0, .int 0, .int 0, .ref q_5]))] := G
  exact m_retv E G hr (fun k => [q_1, q_4, q_5].getD k 0, fun _ _ => 0, fun _ _ => none) trivial [0] (by decide) rfl (by decide) (by decide) dX5_init_65
set_option maxHeartbeats 4000000 in
set_option maxRecDepth 100000 in
/-- Course() -/
theorem c_Course_init (l : Launch) (D : va_G) (K : Nat → ClassId) (h0 : Nat) : mV (S := mU) l yX1_init cX1_init 1 ({ frames := 3, cells := 28, slots := 693, locals := 60 }) D K [(h0, .inr (1, [.null, .null, .null, .null, .null, .null]))] [.ref h0] (fun u => True) (fun u => []) := by
  refine m_enterV (by decide) (Nat.le_of_ble_eq_true rfl) ?_
  intro p e s m args below meth c A ls E hr hN G hl
  have E : mE p s m meth c cX1_init args 1 RX1 D K A := E
  have hl : lv_has ls 1 [(0, .ref h0)] := hl
  obtain ⟨H, hH⟩ : ∃ H, H = s.heap := ⟨_, rfl⟩
  obtain ⟨locs, hlo⟩ : ∃ L : List Loc, L = [] := ⟨_, rfl⟩
  rw [← hH, ← hlo] at G
  rw [← hH, ← hlo]
  have G : mG D A s H locs [(h0, .inr (1, [.null, .null, .null, .null, .null, .null]))] := G
  clear hH hlo
  refine lv_aload_n E.1 E.2.1 dX1_init_0 rfl (lv_at hl 0 rfl) ?_
  refine m_objInit E hl mw_ml_1_3 dX1_init_1 (by decide) (Nat.le_of_ble_eq_true rfl) (by decide) ?_
  refine lv_aload_n E.1 E.2.1 dX1_init_4 rfl (lv_at hl 0 rfl) ?_
  refine m_new E G 6 (C := RX6) (T := TX6) (N := 8) rfl fr_X6 mw_cl_1_9 mw_insta_6 mw_ini_6 (by decide) (by decide) dX1_init_5 (fun q_1 H G => ?_)
  have G : mG D A s H locs [(h0, .inr (1, [.null, .null, .null, .null, .null, .null])), (q_1, .inr (6, [.null, .null, .null, .null, .null, .null, .int 0, .int 0]))] := G
  refine lv_dup E.1 E.2.1 dX1_init_8 rfl ?_
  refine m_in E G hl (c_State_init l D K q_1) (wr := [(h0, .inr (1, [.null, .null, .null, .null, .null, .null]))]) [1] [0] rfl rfl (by decide) (by decide) (by decide) 0 rfl rfl mw_code_X6_init mw_ini_6 mw_mn_1_11 mw_inst_X6_init hd_X6_init ⟨by decide, by decide⟩ rfl (Nat.le_of_ble_eq_true rfl) ⟨by decide, by decide⟩ dX1_init_9 (fun u_2 H locs hp G => ?_)
  have G : mG D A s H locs [(h0, .inr (1, [.null, .null, .null, .null, .null, .null])), (q_1, .inr (6, [.ref (u_2.1 0), .ref (u_2.1 1), .ref (u_2.1 2), .ref (u_2.1 3), .ref (u_2.1 4), .ref (u_2.1 5), .int 0, .int 0])), ((u_2.1 0), .inl (K 0, 5, .inl (fun _ => 0))), ((u_2.1 1), .inl (K 0, 5, .inl (fun _ => 0))), ((u_2.1 2), .inl (K 0, 5, .inl (fun _ => 0))), ((u_2.1 3), .inl (K 0, 5, .inl (fun _ => 0))), ((u_2.1 4), .inl (K 0, 6, .inl (fun _ => 0))), ((u_2.1 5), .inl (K 0, 6, .inl (fun _ => 0)))] := G
  have G : mG D A s H locs [(h0, .inr (1, [.null, .null, .null, .null, .null, .null]))] := G.sub [0] (by decide) rfl
  refine m_putF E G hN 0 (ci := 1) rfl 0 (C := RX1) (T := TX1) (N := 6) rfl (by decide) mw_fl_1_12 rfl rfl rfl rfl (Nat.le_of_ble_eq_true rfl) dX1_init_12 (fun H locs G => ?_)
  have G : mG D A s H locs [(h0, .inr (1, [.ref q_1, .null, .null, .null, .null, .null]))] := G
  refine lv_aload_n E.1 E.2.1 dX1_init_15 rfl (lv_at hl 0 rfl) ?_
  refine lv_iconst (v := 5) E.1 E.2.1 dX1_init_16 (by decide) ?_
  refine m_newi E G (N' := 5) (by decide) (by decide) (by decide) (by decide) (by decide) dX1_init_17 (fun q_4 H G => ?_)
  have G : mG D A s H locs [(h0, .inr (1, [.ref q_1, .null, .null, .null, .null, .null])), (q_4, .inl (K 0, 5, .inl (fun _ => 0)))] := G
  refine m_putF E G hN 0 (ci := 1) rfl 1 (C := RX1) (T := TX1) (N := 6) rfl (by decide) mw_fl_1_18 rfl rfl rfl rfl (Nat.le_of_ble_eq_true rfl) dX1_init_19 (fun H locs G => ?_)
  have G : mG D A s H locs [(h0, .inr (1, [.ref q_1, .ref q_4, .null, .null, .null, .null])), (q_4, .inl (K 0, 5, .inl (fun _ => 0)))] := G
  refine lv_aload_n E.1 E.2.1 dX1_init_22 rfl (lv_at hl 0 rfl) ?_
  refine lv_iconst (v := 5) E.1 E.2.1 dX1_init_23 (by decide) ?_
  refine m_newi E G (N' := 5) (by decide) (by decide) (by decide) (by decide) (by decide) dX1_init_24 (fun q_5 H G => ?_)
  have G : mG D A s H locs [(h0, .inr (1, [.ref q_1, .ref q_4, .null, .null, .null, .null])), (q_4, .inl (K 0, 5, .inl (fun _ => 0))), (q_5, .inl (K 0, 5, .inl (fun _ => 0)))] := G
  refine m_putF E G hN 0 (ci := 1) rfl 2 (C := RX1) (T := TX1) (N := 6) rfl (by decide) mw_fl_1_22 rfl rfl rfl rfl (Nat.le_of_ble_eq_true rfl) dX1_init_26 (fun H locs G => ?_)
  have G : mG D A s H locs [(h0, .inr (1, [.ref q_1, .ref q_4, .ref q_5, .null, .null, .null])), (q_4, .inl (K 0, 5, .inl (fun _ => 0))), (q_5, .inl (K 0, 5, .inl (fun _ => 0)))] := G
  refine lv_aload_n E.1 E.2.1 dX1_init_29 rfl (lv_at hl 0 rfl) ?_
  refine lv_bipush (v := 11) E.1 E.2.1 dX1_init_30 (by decide) ?_
  refine m_newi E G (N' := 11) (by decide) (by decide) (by decide) (by decide) (by decide) dX1_init_32 (fun q_6 H G => ?_)
  have G : mG D A s H locs [(h0, .inr (1, [.ref q_1, .ref q_4, .ref q_5, .null, .null, .null])), (q_4, .inl (K 0, 5, .inl (fun _ => 0))), (q_5, .inl (K 0, 5, .inl (fun _ => 0))), (q_6, .inl (K 0, 11, .inl (fun _ => 0)))] := G
  refine m_putF E G hN 0 (ci := 1) rfl 3 (C := RX1) (T := TX1) (N := 6) rfl (by decide) mw_fl_1_25 rfl rfl rfl rfl (Nat.le_of_ble_eq_true rfl) dX1_init_34 (fun H locs G => ?_)
  have G : mG D A s H locs [(h0, .inr (1, [.ref q_1, .ref q_4, .ref q_5, .ref q_6, .null, .null])), (q_4, .inl (K 0, 5, .inl (fun _ => 0))), (q_5, .inl (K 0, 5, .inl (fun _ => 0))), (q_6, .inl (K 0, 11, .inl (fun _ => 0)))] := G
  refine lv_aload_n E.1 E.2.1 dX1_init_37 rfl (lv_at hl 0 rfl) ?_
  refine m_new E G 8 (C := RX8) (T := TX8) (N := 10) rfl fr_X8 mw_cl_1_28 mw_insta_8 mw_ini_8 (by decide) (by decide) dX1_init_38 (fun q_7 H G => ?_)
  have G : mG D A s H locs [(h0, .inr (1, [.ref q_1, .ref q_4, .ref q_5, .ref q_6, .null, .null])), (q_4, .inl (K 0, 5, .inl (fun _ => 0))), (q_5, .inl (K 0, 5, .inl (fun _ => 0))), (q_6, .inl (K 0, 11, .inl (fun _ => 0))), (q_7, .inr (8, [.int 0, .int 0, .int 0, .int 0, .null, .null, .null, .null, .null, .null]))] := G
  refine lv_dup E.1 E.2.1 dX1_init_41 rfl ?_
  refine m_in E G hl (c_Town_init l D K q_7) (wr := [(h0, .inr (1, [.ref q_1, .ref q_4, .ref q_5, .ref q_6, .null, .null])), (q_4, .inl (K 0, 5, .inl (fun _ => 0))), (q_5, .inl (K 0, 5, .inl (fun _ => 0))), (q_6, .inl (K 0, 11, .inl (fun _ => 0)))]) [4] [0, 1, 2, 3] rfl rfl (by decide) (by decide) (by decide) 0 rfl rfl mw_code_X8_init mw_ini_8 mw_mn_1_30 mw_inst_X8_init hd_X8_init ⟨by decide, by decide⟩ rfl (Nat.le_of_ble_eq_true rfl) ⟨by decide, by decide⟩ dX1_init_42 (fun u_8 H locs hp G => ?_)
  have G : mG D A s H locs [(h0, .inr (1, [.ref q_1, .ref q_4, .ref q_5, .ref q_6, .null, .null])), (q_4, .inl (K 0, 5, .inl (fun _ => 0))), (q_5, .inl (K 0, 5, .inl (fun _ => 0))), (q_6, .inl (K 0, 11, .inl (fun _ => 0))), (q_7, .inr (8, [.int 0, .int 0, .int 0, .int 0, .ref (u_8.1 0), .ref (u_8.1 1), .ref (u_8.1 2), .ref (u_8.1 3), .ref (u_8.1 4), .ref (u_8.1 11)])), ((u_8.1 0), .inl (K 0, 8, .inl (fun _ => 0))), ((u_8.1 1), .inl (K 0, 6, .inl (fun _ => 0))), ((u_8.1 2), .inl (K 0, 6, .inl (fun _ => 0))), ((u_8.1 3), .inl (K 0, 5, .inl (fun _ => 0))), ((u_8.1 4), .inr (6, [.ref (u_8.1 5), .ref (u_8.1 6), .ref (u_8.1 7), .ref (u_8.1 8), .ref (u_8.1 9), .ref (u_8.1 10), .int 0, .int 0])), ((u_8.1 5), .inl (K 0, 5, .inl (fun _ => 0))), ((u_8.1 6), .inl (K 0, 5, .inl (fun _ => 0))), ((u_8.1 7), .inl (K 0, 5, .inl (fun _ => 0))), ((u_8.1 8), .inl (K 0, 5, .inl (fun _ => 0))), ((u_8.1 9), .inl (K 0, 6, .inl (fun _ => 0))), ((u_8.1 10), .inl (K 0, 6, .inl (fun _ => 0))), ((u_8.1 11), .inl (K 0, 64, .inl (fun _ => 0)))] := G
  have G : mG D A s H locs [(h0, .inr (1, [.ref q_1, .ref q_4, .ref q_5, .ref q_6, .null, .null]))] := G.sub [0] (by decide) rfl
  refine m_put E G 0 (ci := 1) rfl 4 (C := RX1) (T := TX1) (N := 6) rfl (by decide) mw_fl_1_31 rfl rfl rfl (Nat.le_of_ble_eq_true rfl) dX1_init_45 (fun H locs G => ?_)
  have G : mG D A s H locs [(h0, .inr (1, [.ref q_1, .ref q_4, .ref q_5, .ref q_6, .ref q_7, .null]))] := G
  refine lv_aload_n E.1 E.2.1 dX1_init_48 rfl (lv_at hl 0 rfl) ?_
  refine m_new E G 4 (C := RX4) (T := TX4) (N := 6) rfl fr_X4 mw_cl_1_35 mw_insta_4 mw_ini_4 (by decide) (by decide) dX1_init_49 (fun q_10 H G => ?_)
  have G : mG D A s H locs [(h0, .inr (1, [.ref q_1, .ref q_4, .ref q_5, .ref q_6, .ref q_7, .null])), (q_10, .inr (4, [.int 0, .null, .int 0, .null, .null, .null]))] := G
  refine lv_dup E.1 E.2.1 dX1_init_52 rfl ?_
  refine m_in E G hl (c_Rule_init l D K q_10) (wr := [(h0, .inr (1, [.ref q_1, .ref q_4, .ref q_5, .ref q_6, .ref q_7, .null]))]) [1] [0] rfl rfl (by decide) (by decide) (by decide) 0 rfl rfl mw_code_X4_init mw_ini_4 mw_mn_1_37 mw_inst_X4_init hd_X4_init ⟨by decide, by decide⟩ rfl (Nat.le_of_ble_eq_true rfl) ⟨by decide, by decide⟩ dX1_init_53 (fun u_11 H locs hp G => ?_)
  have G : mG D A s H locs [(h0, .inr (1, [.ref q_1, .ref q_4, .ref q_5, .ref q_6, .ref q_7, .null])), (q_10, .inr (4, [.int 0, .ref (u_11.1 0), .int 0, .ref (u_11.1 1), .ref (u_11.1 2), .ref (u_11.1 3)])), ((u_11.1 2), .inl (K 0, 13, .inl (fun _ => 0)))] := G
  have G : mG D A s H locs [(h0, .inr (1, [.ref q_1, .ref q_4, .ref q_5, .ref q_6, .ref q_7, .null]))] := G.sub [0] (by decide) rfl
  refine m_put E G 0 (ci := 1) rfl 5 (C := RX1) (T := TX1) (N := 6) rfl (by decide) mw_fl_1_38 rfl rfl rfl (Nat.le_of_ble_eq_true rfl) dX1_init_56 (fun H locs G => ?_)
  have G : mG D A s H locs [(h0, .inr (1, [.ref q_1, .ref q_4, .ref q_5, .ref q_6, .ref q_7, .ref q_10]))] := G
  exact m_retv E G hr (fun _ => 0, fun _ _ => 0, fun _ _ => none) trivial [] (by decide) rfl (by decide) (by decide) dX1_init_59
