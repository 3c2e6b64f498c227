theorem mw_fl_1_105 : (Cond.fieldLink RX1 105 "LureTown$Town" "cornerCount" "I" : Cond) ∈ cw := cw_of (List.mem_append_right _ (List.mem_append_left _ (List.mem_of_getElem? (i := 135) (by decide +kernel)))) (by decide +kernel)
theorem mw_fl_1_108 : (Cond.fieldLink RX1 108 "LureTown$Town" "joined" "[I" : Cond) ∈ cw := cw_of (List.mem_append_right _ (List.mem_append_left _ (List.mem_of_getElem? (i := 149) (by decide +kernel)))) (by decide +kernel)
theorem mw_fl_1_12 : (Cond.fieldLink RX1 12 "LureTown$Course" "state" "LLureTown$State;" : Cond) ∈ cw := cw_of (List.mem_append_right _ (List.mem_append_right _ (List.mem_append_left _ (List.mem_of_getElem? (i := 105) (by decide +kernel))))) (by decide +kernel)
theorem mw_fl_1_122 : (Cond.fieldLink RX1 122 "LureTown$State" "walkerHeart" "[I" : Cond) ∈ cw := cw_of (List.mem_append_right _ (List.mem_append_left _ (List.mem_of_getElem? (i := 93) (by decide +kernel)))) (by decide +kernel)
theorem mw_fl_1_125 : (Cond.fieldLink RX1 125 "LureTown$Town" "lureCount" "I" : Cond) ∈ cw := cw_of (List.mem_append_right _ (List.mem_append_left _ (List.mem_of_getElem? (i := 142) (by decide +kernel)))) (by decide +kernel)
theorem mw_fl_1_128 : (Cond.fieldLink RX1 128 "LureTown$State" "lureCorner" "[I" : Cond) ∈ cw := cw_of (List.mem_append_right _ (List.mem_append_left _ (List.mem_of_getElem? (i := 105) (by decide +kernel)))) (by decide +kernel)
theorem mw_fl_1_25 : (Cond.fieldLink RX1 25 "LureTown$Course" "words" "[I" : Cond) ∈ cw := cw_of (List.mem_append_right _ (List.mem_append_right _ (List.mem_append_left _ (List.mem_of_getElem? (i := 110) (by decide +kernel))))) (by decide +kernel)
theorem mw_fl_1_31 : (Cond.fieldLink RX1 31 "LureTown$Course" "town" "LLureTown$Town;" : Cond) ∈ cw := cw_of (List.mem_append_right _ (List.mem_append_right _ (List.mem_append_left _ (List.mem_of_getElem? (i := 111) (by decide +kernel))))) (by decide +kernel)
theorem mw_fl_1_38 : (Cond.fieldLink RX1 38 "LureTown$Course" "rule" "LLureTown$Rule;" : Cond) ∈ cw := cw_of (List.mem_append_right _ (List.mem_append_right _ (List.mem_append_left _ (List.mem_of_getElem? (i := 112) (by decide +kernel))))) (by decide +kernel)
theorem mw_fl_1_50 : (Cond.fieldLink RX1 50 "LureTown$Town" "walkerCount" "I" : Cond) ∈ cw := cw_of (List.mem_append_right _ (List.mem_append_left _ (List.mem_of_getElem? (i := 145) (by decide +kernel)))) (by decide +kernel)
theorem mw_fl_1_64 : (Cond.fieldLink RX1 64 "LureTown$State" "walkerCorner" "[I" : Cond) ∈ cw := cw_of (List.mem_append_right _ (List.mem_append_left _ (List.mem_of_getElem? (i := 87) (by decide +kernel)))) (by decide +kernel)
theorem mw_fl_1_81 : (Cond.fieldLink RX1 81 "LureTown$State" "steps" "I" : Cond) ∈ cw := cw_of (List.mem_append_right _ (List.mem_append_left _ (List.mem_of_getElem? (i := 114) (by decide +kernel)))) (by decide +kernel)
theorem mw_fl_1_84 : (Cond.fieldLink RX1 84 "LureTown$State" "setBits" "I" : Cond) ∈ cw := cw_of (List.mem_append_right _ (List.mem_append_left _ (List.mem_of_getElem? (i := 111) (by decide +kernel)))) (by decide +kernel)
theorem mw_fl_1_87 : (Cond.fieldLink RX1 87 "LureTown$State" "walkerCharge" "[I" : Cond) ∈ cw := cw_of (List.mem_append_right _ (List.mem_append_left _ (List.mem_of_getElem? (i := 100) (by decide +kernel)))) (by decide +kernel)
theorem mw_fl_1_90 : (Cond.fieldLink RX1 90 "LureTown$Town" "lureCharge" "[I" : Cond) ∈ cw := cw_of (List.mem_append_right _ (List.mem_append_left _ (List.mem_of_getElem? (i := 154) (by decide +kernel)))) (by decide +kernel)
theorem mw_fl_1_99 : (Cond.fieldLink RX1 99 "LureTown$State" "walkerWary" "[I" : Cond) ∈ cw := cw_of (List.mem_append_right _ (List.mem_append_left _ (List.mem_of_getElem? (i := 96) (by decide +kernel)))) (by decide +kernel)
theorem mw_ml_1_102 : (Cond.methodLink RX1 102 yX8_waysHome : Cond) ∈ cw := cw_of (List.mem_append_right _ (List.mem_append_right _ (List.mem_append_right _ (List.mem_append_right _ (List.mem_append_left _ (List.mem_of_getElem? (i := 90) (by decide +kernel))))))) (by decide +kernel)
theorem mw_ml_1_131 : (Cond.methodLink RX1 131 yX6_isSet : Cond) ∈ cw := cw_of (List.mem_append_right _ (List.mem_append_right _ (List.mem_append_right _ (List.mem_append_right _ (List.mem_append_left _ (List.mem_of_getElem? (i := 106) (by decide +kernel))))))) (by decide +kernel)
theorem mw_ml_1_135 : (Cond.methodLink RX1 135 yX8_wouldHave : Cond) ∈ cw := cw_of (List.mem_append_right _ (List.mem_append_right _ (List.mem_append_right _ (List.mem_append_right _ (List.mem_append_left _ (List.mem_of_getElem? (i := 107) (by decide +kernel))))))) (by decide +kernel)
theorem mw_ml_1_42 : (Cond.methodLink RX1 42 yX6_copyFrom : Cond) ∈ cw := cw_of (List.mem_append_right _ (List.mem_append_right _ (List.mem_append_right _ (List.mem_append_right _ (List.mem_append_left _ (List.mem_of_getElem? (i := 81) (by decide +kernel))))))) (by decide +kernel)
theorem mw_ml_1_93 : (Cond.methodLink RX1 93 Lib.Math.min.name : Cond) ∈ cw := cw_of (List.mem_append_right _ (List.mem_append_right _ (List.mem_append_right _ (List.mem_append_right _ (List.mem_append_left _ (List.mem_of_getElem? (i := 132) (by decide +kernel))))))) (by decide +kernel)
theorem dX1_gainOf_0 : decode cX1_gainOf 0 = .ok (.aload_n 0, 1) := by decide +kernel
theorem dX1_gainOf_1 : decode cX1_gainOf 1 = .ok (.getfield 12, 3) := by decide +kernel
theorem dX1_gainOf_4 : decode cX1_gainOf 4 = .ok (.iload_n 1, 1) := by decide +kernel
theorem dX1_gainOf_5 : decode cX1_gainOf 5 = .ok (.invokevirtual 131, 3) := by decide +kernel
theorem dX1_gainOf_8 : decode cX1_gainOf 8 = .ok (.ifCond .ne 13, 3) := by decide +kernel
theorem dX1_gainOf_11 : decode cX1_gainOf 11 = .ok (.aload_n 0, 1) := by decide +kernel
theorem dX1_gainOf_12 : decode cX1_gainOf 12 = .ok (.getfield 31, 3) := by decide +kernel
theorem dX1_gainOf_15 : decode cX1_gainOf 15 = .ok (.getfield 90, 3) := by decide +kernel
theorem dX1_gainOf_18 : decode cX1_gainOf 18 = .ok (.iload_n 1, 1) := by decide +kernel
theorem dX1_gainOf_19 : decode cX1_gainOf 19 = .ok (.iaload, 1) := by decide +kernel
theorem dX1_gainOf_20 : decode cX1_gainOf 20 = .ok (.ireturn, 1) := by decide +kernel
theorem dX1_gainOf_21 : decode cX1_gainOf 21 = .ok (.iconst 0, 1) := by decide +kernel
theorem dX1_gainOf_22 : decode cX1_gainOf 22 = .ok (.istore_n 2, 1) := by decide +kernel
theorem dX1_gainOf_23 : decode cX1_gainOf 23 = .ok (.iload_n 2, 1) := by decide +kernel
theorem dX1_gainOf_24 : decode cX1_gainOf 24 = .ok (.aload_n 0, 1) := by decide +kernel
theorem dX1_gainOf_25 : decode cX1_gainOf 25 = .ok (.getfield 31, 3) := by decide +kernel
theorem dX1_gainOf_28 : decode cX1_gainOf 28 = .ok (.getfield 50, 3) := by decide +kernel
theorem dX1_gainOf_31 : decode cX1_gainOf 31 = .ok (.if_icmp .ge 32, 3) := by decide +kernel
theorem dX1_gainOf_34 : decode cX1_gainOf 34 = .ok (.aload_n 0, 1) := by decide +kernel
theorem dX1_gainOf_35 : decode cX1_gainOf 35 = .ok (.getfield 12, 3) := by decide +kernel
theorem dX1_gainOf_38 : decode cX1_gainOf 38 = .ok (.getfield 64, 3) := by decide +kernel
theorem dX1_gainOf_41 : decode cX1_gainOf 41 = .ok (.iload_n 2, 1) := by decide +kernel
theorem dX1_gainOf_42 : decode cX1_gainOf 42 = .ok (.iaload, 1) := by decide +kernel
theorem dX1_gainOf_43 : decode cX1_gainOf 43 = .ok (.aload_n 0, 1) := by decide +kernel
theorem dX1_gainOf_44 : decode cX1_gainOf 44 = .ok (.getfield 12, 3) := by decide +kernel
theorem dX1_gainOf_47 : decode cX1_gainOf 47 = .ok (.getfield 128, 3) := by decide +kernel
theorem dX1_gainOf_50 : decode cX1_gainOf 50 = .ok (.iload_n 1, 1) := by decide +kernel
theorem dX1_gainOf_51 : decode cX1_gainOf 51 = .ok (.iaload, 1) := by decide +kernel
theorem dX1_gainOf_52 : decode cX1_gainOf 52 = .ok (.if_icmp .ne 5, 3) := by decide +kernel
theorem dX1_gainOf_55 : decode cX1_gainOf 55 = .ok (.iconst 1, 1) := by decide +kernel
theorem dX1_gainOf_56 : decode cX1_gainOf 56 = .ok (.ireturn, 1) := by decide +kernel
theorem dX1_gainOf_57 : decode cX1_gainOf 57 = .ok (.iinc 2 1, 3) := by decide +kernel
theorem dX1_gainOf_60 : decode cX1_gainOf 60 = .ok (.goto (-37), 3) := by decide +kernel
theorem dX1_gainOf_63 : decode cX1_gainOf 63 = .ok (.iconst 0, 1) := by decide +kernel
theorem dX1_gainOf_64 : decode cX1_gainOf 64 = .ok (.ireturn, 1) := by decide +kernel
theorem dX1_homeward_0 : decode cX1_homeward 0 = .ok (.aload_n 0, 1) := by decide +kernel
theorem dX1_homeward_1 : decode cX1_homeward 1 = .ok (.getfield 12, 3) := by decide +kernel
theorem dX1_homeward_4 : decode cX1_homeward 4 = .ok (.getfield 64, 3) := by decide +kernel
theorem dX1_homeward_7 : decode cX1_homeward 7 = .ok (.iload_n 1, 1) := by decide +kernel
theorem dX1_homeward_8 : decode cX1_homeward 8 = .ok (.iaload, 1) := by decide +kernel
theorem dX1_homeward_9 : decode cX1_homeward 9 = .ok (.istore_n 2, 1) := by decide +kernel
theorem dX1_homeward_10 : decode cX1_homeward 10 = .ok (.aload_n 0, 1) := by decide +kernel
theorem dX1_homeward_11 : decode cX1_homeward 11 = .ok (.getfield 31, 3) := by decide +kernel
theorem dX1_homeward_14 : decode cX1_homeward 14 = .ok (.iload_n 1, 1) := by decide +kernel
theorem dX1_homeward_15 : decode cX1_homeward 15 = .ok (.iload_n 2, 1) := by decide +kernel
theorem dX1_homeward_16 : decode cX1_homeward 16 = .ok (.invokevirtual 102, 3) := by decide +kernel
theorem dX1_homeward_19 : decode cX1_homeward 19 = .ok (.istore_n 3, 1) := by decide +kernel
theorem dX1_homeward_20 : decode cX1_homeward 20 = .ok (.iconst 0, 1) := by decide +kernel
theorem dX1_homeward_21 : decode cX1_homeward 21 = .ok (.istore 4, 2) := by decide +kernel
theorem dX1_homeward_23 : decode cX1_homeward 23 = .ok (.iload 4, 2) := by decide +kernel
theorem dX1_homeward_25 : decode cX1_homeward 25 = .ok (.aload_n 0, 1) := by decide +kernel
theorem dX1_homeward_26 : decode cX1_homeward 26 = .ok (.getfield 31, 3) := by decide +kernel
theorem dX1_homeward_29 : decode cX1_homeward 29 = .ok (.getfield 105, 3) := by decide +kernel
theorem dX1_homeward_32 : decode cX1_homeward 32 = .ok (.if_icmp .ge 51, 3) := by decide +kernel
theorem dX1_homeward_35 : decode cX1_homeward 35 = .ok (.iload_n 3, 1) := by decide +kernel
theorem dX1_homeward_36 : decode cX1_homeward 36 = .ok (.bipush 99, 2) := by decide +kernel
theorem dX1_homeward_38 : decode cX1_homeward 38 = .ok (.if_icmp .eq 45, 3) := by decide +kernel
theorem dX1_homeward_41 : decode cX1_homeward 41 = .ok (.aload_n 0, 1) := by decide +kernel
theorem dX1_homeward_42 : decode cX1_homeward 42 = .ok (.getfield 31, 3) := by decide +kernel
theorem dX1_homeward_45 : decode cX1_homeward 45 = .ok (.getfield 108, 3) := by decide +kernel
theorem dX1_homeward_48 : decode cX1_homeward 48 = .ok (.iload_n 2, 1) := by decide +kernel
theorem dX1_homeward_49 : decode cX1_homeward 49 = .ok (.iaload, 1) := by decide +kernel
theorem dX1_homeward_50 : decode cX1_homeward 50 = .ok (.iload 4, 2) := by decide +kernel
theorem dX1_homeward_52 : decode cX1_homeward 52 = .ok (.ishr, 1) := by decide +kernel
theorem dX1_homeward_53 : decode cX1_homeward 53 = .ok (.iconst 1, 1) := by decide +kernel
theorem dX1_homeward_54 : decode cX1_homeward 54 = .ok (.iand, 1) := by decide +kernel
theorem dX1_homeward_55 : decode cX1_homeward 55 = .ok (.ifCond .eq 22, 3) := by decide +kernel
theorem dX1_homeward_58 : decode cX1_homeward 58 = .ok (.aload_n 0, 1) := by decide +kernel
theorem dX1_homeward_59 : decode cX1_homeward 59 = .ok (.getfield 31, 3) := by decide +kernel
theorem dX1_homeward_62 : decode cX1_homeward 62 = .ok (.iload_n 1, 1) := by decide +kernel
theorem dX1_homeward_63 : decode cX1_homeward 63 = .ok (.iload 4, 2) := by decide +kernel
theorem dX1_homeward_65 : decode cX1_homeward 65 = .ok (.invokevirtual 102, 3) := by decide +kernel
theorem dX1_homeward_68 : decode cX1_homeward 68 = .ok (.iload_n 3, 1) := by decide +kernel
theorem dX1_homeward_69 : decode cX1_homeward 69 = .ok (.iconst 1, 1) := by decide +kernel
theorem dX1_homeward_70 : decode cX1_homeward 70 = .ok (.isub, 1) := by decide +kernel
theorem dX1_homeward_71 : decode cX1_homeward 71 = .ok (.if_icmp .ne 6, 3) := by decide +kernel
theorem dX1_homeward_74 : decode cX1_homeward 74 = .ok (.iload 4, 2) := by decide +kernel
theorem dX1_homeward_76 : decode cX1_homeward 76 = .ok (.ireturn, 1) := by decide +kernel
theorem dX1_homeward_77 : decode cX1_homeward 77 = .ok (.iinc 4 1, 3) := by decide +kernel
theorem dX1_homeward_80 : decode cX1_homeward 80 = .ok (.goto (-57), 3) := by decide +kernel
theorem dX1_homeward_83 : decode cX1_homeward 83 = .ok (.iload_n 2, 1) := by decide +kernel
theorem dX1_homeward_84 : decode cX1_homeward 84 = .ok (.ireturn, 1) := by decide +kernel
theorem dX1_spring_0 : decode cX1_spring 0 = .ok (.aload_n 0, 1) := by decide +kernel
theorem dX1_spring_1 : decode cX1_spring 1 = .ok (.getfield 12, 3) := by decide +kernel
theorem dX1_spring_4 : decode cX1_spring 4 = .ok (.dup, 1) := by decide +kernel
theorem dX1_spring_5 : decode cX1_spring 5 = .ok (.getfield 84, 3) := by decide +kernel
theorem dX1_spring_8 : decode cX1_spring 8 = .ok (.iconst 1, 1) := by decide +kernel
theorem dX1_spring_9 : decode cX1_spring 9 = .ok (.iload_n 1, 1) := by decide +kernel
theorem dX1_spring_10 : decode cX1_spring 10 = .ok (.ishl, 1) := by decide +kernel
theorem dX1_spring_11 : decode cX1_spring 11 = .ok (.iconst (-1), 1) := by decide +kernel
theorem dX1_spring_12 : decode cX1_spring 12 = .ok (.ixor, 1) := by decide +kernel
theorem dX1_spring_13 : decode cX1_spring 13 = .ok (.iand, 1) := by decide +kernel
theorem dX1_spring_14 : decode cX1_spring 14 = .ok (.putfield 84, 3) := by decide +kernel
theorem dX1_spring_17 : decode cX1_spring 17 = .ok (.aload_n 0, 1) := by decide +kernel
theorem dX1_spring_18 : decode cX1_spring 18 = .ok (.getfield 12, 3) := by decide +kernel
theorem dX1_spring_21 : decode cX1_spring 21 = .ok (.getfield 87, 3) := by decide +kernel
theorem dX1_spring_24 : decode cX1_spring 24 = .ok (.iload_n 2, 1) := by decide +kernel
theorem dX1_spring_25 : decode cX1_spring 25 = .ok (.sipush 999, 3) := by decide +kernel
theorem dX1_spring_28 : decode cX1_spring 28 = .ok (.aload_n 0, 1) := by decide +kernel
theorem dX1_spring_29 : decode cX1_spring 29 = .ok (.getfield 12, 3) := by decide +kernel
theorem dX1_spring_32 : decode cX1_spring 32 = .ok (.getfield 87, 3) := by decide +kernel
theorem dX1_spring_35 : decode cX1_spring 35 = .ok (.iload_n 2, 1) := by decide +kernel
theorem dX1_spring_36 : decode cX1_spring 36 = .ok (.iaload, 1) := by decide +kernel
theorem dX1_spring_37 : decode cX1_spring 37 = .ok (.aload_n 0, 1) := by decide +kernel
theorem dX1_spring_38 : decode cX1_spring 38 = .ok (.getfield 31, 3) := by decide +kernel
theorem dX1_spring_41 : decode cX1_spring 41 = .ok (.getfield 90, 3) := by decide +kernel
theorem dX1_spring_44 : decode cX1_spring 44 = .ok (.iload_n 1, 1) := by decide +kernel
theorem dX1_spring_45 : decode cX1_spring 45 = .ok (.iaload, 1) := by decide +kernel
theorem dX1_spring_46 : decode cX1_spring 46 = .ok (.iadd, 1) := by decide +kernel
theorem dX1_spring_47 : decode cX1_spring 47 = .ok (.invokestatic 93, 3) := by decide +kernel
theorem dX1_spring_50 : decode cX1_spring 50 = .ok (.iastore, 1) := by decide +kernel
theorem dX1_spring_51 : decode cX1_spring 51 = .ok (.aload_n 0, 1) := by decide +kernel
theorem dX1_spring_52 : decode cX1_spring 52 = .ok (.getfield 12, 3) := by decide +kernel
theorem dX1_spring_55 : decode cX1_spring 55 = .ok (.getfield 99, 3) := by decide +kernel
theorem dX1_spring_58 : decode cX1_spring 58 = .ok (.iload_n 2, 1) := by decide +kernel
theorem dX1_spring_59 : decode cX1_spring 59 = .ok (.bipush 9, 2) := by decide +kernel
theorem dX1_spring_61 : decode cX1_spring 61 = .ok (.aload_n 0, 1) := by decide +kernel
theorem dX1_spring_62 : decode cX1_spring 62 = .ok (.getfield 12, 3) := by decide +kernel
theorem dX1_spring_65 : decode cX1_spring 65 = .ok (.getfield 99, 3) := by decide +kernel
theorem dX1_spring_68 : decode cX1_spring 68 = .ok (.iload_n 2, 1) := by decide +kernel
theorem dX1_spring_69 : decode cX1_spring 69 = .ok (.iaload, 1) := by decide +kernel
theorem dX1_spring_70 : decode cX1_spring 70 = .ok (.iconst 1, 1) := by decide +kernel
theorem dX1_spring_71 : decode cX1_spring 71 = .ok (.iadd, 1) := by decide +kernel
theorem dX1_spring_72 : decode cX1_spring 72 = .ok (.invokestatic 93, 3) := by decide +kernel
theorem dX1_spring_75 : decode cX1_spring 75 = .ok (.iastore, 1) := by decide +kernel
theorem dX1_spring_76 : decode cX1_spring 76 = .ok (.return_, 1) := by decide +kernel
theorem dX1_start_0 : decode cX1_start 0 = .ok (.aload_n 0, 1) := by decide +kernel
theorem dX1_start_1 : decode cX1_start 1 = .ok (.aload_n 1, 1) := by decide +kernel
theorem dX1_start_2 : decode cX1_start 2 = .ok (.putfield 31, 3) := by decide +kernel
theorem dX1_start_5 : decode cX1_start 5 = .ok (.aload_n 0, 1) := by decide +kernel
theorem dX1_start_6 : decode cX1_start 6 = .ok (.aload_n 2, 1) := by decide +kernel
theorem dX1_start_7 : decode cX1_start 7 = .ok (.putfield 38, 3) := by decide +kernel
theorem dX1_start_10 : decode cX1_start 10 = .ok (.aload_n 0, 1) := by decide +kernel
theorem dX1_start_11 : decode cX1_start 11 = .ok (.getfield 12, 3) := by decide +kernel
theorem dX1_start_14 : decode cX1_start 14 = .ok (.aload_n 3, 1) := by decide +kernel
theorem dX1_start_15 : decode cX1_start 15 = .ok (.invokevirtual 42, 3) := by decide +kernel
theorem dX1_start_18 : decode cX1_start 18 = .ok (.return_, 1) := by decide +kernel
theorem dX1_tellCorner_0 : decode cX1_tellCorner 0 = .ok (.iconst 0, 1) := by decide +kernel
theorem dX1_tellCorner_1 : decode cX1_tellCorner 1 = .ok (.istore_n 3, 1) := by decide +kernel
theorem dX1_tellCorner_2 : decode cX1_tellCorner 2 = .ok (.iconst 0, 1) := by decide +kernel
theorem dX1_tellCorner_3 : decode cX1_tellCorner 3 = .ok (.istore 4, 2) := by decide +kernel
theorem dX1_tellCorner_5 : decode cX1_tellCorner 5 = .ok (.iconst 0, 1) := by decide +kernel
theorem dX1_tellCorner_6 : decode cX1_tellCorner 6 = .ok (.istore 5, 2) := by decide +kernel
theorem dX1_tellCorner_8 : decode cX1_tellCorner 8 = .ok (.iload 5, 2) := by decide +kernel
theorem dX1_tellCorner_10 : decode cX1_tellCorner 10 = .ok (.aload_n 0, 1) := by decide +kernel
theorem dX1_tellCorner_11 : decode cX1_tellCorner 11 = .ok (.getfield 31, 3) := by decide +kernel
theorem dX1_tellCorner_14 : decode cX1_tellCorner 14 = .ok (.getfield 125, 3) := by decide +kernel
theorem dX1_tellCorner_17 : decode cX1_tellCorner 17 = .ok (.if_icmp .ge 65, 3) := by decide +kernel
theorem dX1_tellCorner_20 : decode cX1_tellCorner 20 = .ok (.aload_n 0, 1) := by decide +kernel
theorem dX1_tellCorner_21 : decode cX1_tellCorner 21 = .ok (.getfield 12, 3) := by decide +kernel
theorem dX1_tellCorner_24 : decode cX1_tellCorner 24 = .ok (.getfield 128, 3) := by decide +kernel
theorem dX1_tellCorner_27 : decode cX1_tellCorner 27 = .ok (.iload 5, 2) := by decide +kernel
theorem dX1_tellCorner_29 : decode cX1_tellCorner 29 = .ok (.iaload, 1) := by decide +kernel
theorem dX1_tellCorner_30 : decode cX1_tellCorner 30 = .ok (.iload_n 2, 1) := by decide +kernel
theorem dX1_tellCorner_31 : decode cX1_tellCorner 31 = .ok (.if_icmp .ne 45, 3) := by decide +kernel
theorem dX1_tellCorner_34 : decode cX1_tellCorner 34 = .ok (.aload_n 0, 1) := by decide +kernel
theorem dX1_tellCorner_35 : decode cX1_tellCorner 35 = .ok (.getfield 12, 3) := by decide +kernel
theorem dX1_tellCorner_38 : decode cX1_tellCorner 38 = .ok (.iload 5, 2) := by decide +kernel
theorem dX1_tellCorner_40 : decode cX1_tellCorner 40 = .ok (.invokevirtual 131, 3) := by decide +kernel
theorem dX1_tellCorner_43 : decode cX1_tellCorner 43 = .ok (.ifCond .eq 33, 3) := by decide +kernel
theorem dX1_tellCorner_46 : decode cX1_tellCorner 46 = .ok (.iinc 3 1, 3) := by decide +kernel
theorem dX1_tellCorner_49 : decode cX1_tellCorner 49 = .ok (.iload 4, 2) := by decide +kernel
theorem dX1_tellCorner_51 : decode cX1_tellCorner 51 = .ok (.aload_n 0, 1) := by decide +kernel
theorem dX1_tellCorner_52 : decode cX1_tellCorner 52 = .ok (.getfield 31, 3) := by decide +kernel
theorem dX1_tellCorner_55 : decode cX1_tellCorner 55 = .ok (.aload_n 0, 1) := by decide +kernel
theorem dX1_tellCorner_56 : decode cX1_tellCorner 56 = .ok (.getfield 12, 3) := by decide +kernel
theorem dX1_tellCorner_59 : decode cX1_tellCorner 59 = .ok (.iload 5, 2) := by decide +kernel
theorem dX1_tellCorner_61 : decode cX1_tellCorner 61 = .ok (.iload_n 1, 1) := by decide +kernel
theorem dX1_tellCorner_62 : decode cX1_tellCorner 62 = .ok (.invokevirtual 135, 3) := by decide +kernel
theorem dX1_tellCorner_65 : decode cX1_tellCorner 65 = .ok (.ifCond .eq 7, 3) := by decide +kernel
theorem dX1_tellCorner_68 : decode cX1_tellCorner 68 = .ok (.iconst 1, 1) := by decide +kernel
theorem dX1_tellCorner_69 : decode cX1_tellCorner 69 = .ok (.goto 4, 3) := by decide +kernel
theorem dX1_tellCorner_72 : decode cX1_tellCorner 72 = .ok (.iconst 0, 1) := by decide +kernel
theorem dX1_tellCorner_73 : decode cX1_tellCorner 73 = .ok (.iadd, 1) := by decide +kernel
theorem dX1_tellCorner_74 : decode cX1_tellCorner 74 = .ok (.istore 4, 2) := by decide +kernel
theorem dX1_tellCorner_76 : decode cX1_tellCorner 76 = .ok (.iinc 5 1, 3) := by decide +kernel
theorem dX1_tellCorner_79 : decode cX1_tellCorner 79 = .ok (.goto (-71), 3) := by decide +kernel
theorem dX1_tellCorner_82 : decode cX1_tellCorner 82 = .ok (.iconst 0, 1) := by decide +kernel
theorem dX1_tellCorner_83 : decode cX1_tellCorner 83 = .ok (.istore 5, 2) := by decide +kernel
theorem dX1_tellCorner_85 : decode cX1_tellCorner 85 = .ok (.iconst 0, 1) := by decide +kernel
theorem dX1_tellCorner_86 : decode cX1_tellCorner 86 = .ok (.istore 6, 2) := by decide +kernel
theorem dX1_tellCorner_88 : decode cX1_tellCorner 88 = .ok (.iload 6, 2) := by decide +kernel
theorem dX1_tellCorner_90 : decode cX1_tellCorner 90 = .ok (.aload_n 0, 1) := by decide +kernel
theorem dX1_tellCorner_91 : decode cX1_tellCorner 91 = .ok (.getfield 31, 3) := by decide +kernel
theorem dX1_tellCorner_94 : decode cX1_tellCorner 94 = .ok (.getfield 50, 3) := by decide +kernel
theorem dX1_tellCorner_97 : decode cX1_tellCorner 97 = .ok (.if_icmp .ge 39, 3) := by decide +kernel
theorem dX1_tellCorner_100 : decode cX1_tellCorner 100 = .ok (.iload 5, 2) := by decide +kernel
theorem dX1_tellCorner_102 : decode cX1_tellCorner 102 = .ok (.iload 6, 2) := by decide +kernel
theorem dX1_tellCorner_104 : decode cX1_tellCorner 104 = .ok (.iload_n 1, 1) := by decide +kernel
theorem dX1_tellCorner_105 : decode cX1_tellCorner 105 = .ok (.if_icmp .eq 21, 3) := by decide +kernel
theorem dX1_tellCorner_108 : decode cX1_tellCorner 108 = .ok (.aload_n 0, 1) := by decide +kernel
theorem dX1_tellCorner_109 : decode cX1_tellCorner 109 = .ok (.getfield 12, 3) := by decide +kernel
theorem dX1_tellCorner_112 : decode cX1_tellCorner 112 = .ok (.getfield 64, 3) := by decide +kernel
theorem dX1_tellCorner_115 : decode cX1_tellCorner 115 = .ok (.iload 6, 2) := by decide +kernel
theorem dX1_tellCorner_117 : decode cX1_tellCorner 117 = .ok (.iaload, 1) := by decide +kernel
theorem dX1_tellCorner_118 : decode cX1_tellCorner 118 = .ok (.iload_n 2, 1) := by decide +kernel
theorem dX1_tellCorner_119 : decode cX1_tellCorner 119 = .ok (.if_icmp .ne 7, 3) := by decide +kernel
theorem dX1_tellCorner_122 : decode cX1_tellCorner 122 = .ok (.iconst 1, 1) := by decide +kernel
theorem dX1_tellCorner_123 : decode cX1_tellCorner 123 = .ok (.goto 4, 3) := by decide +kernel
theorem dX1_tellCorner_126 : decode cX1_tellCorner 126 = .ok (.iconst 0, 1) := by decide +kernel
theorem dX1_tellCorner_127 : decode cX1_tellCorner 127 = .ok (.iadd, 1) := by decide +kernel
theorem dX1_tellCorner_128 : decode cX1_tellCorner 128 = .ok (.istore 5, 2) := by decide +kernel
theorem dX1_tellCorner_130 : decode cX1_tellCorner 130 = .ok (.iinc 6 1, 3) := by decide +kernel
theorem dX1_tellCorner_133 : decode cX1_tellCorner 133 = .ok (.goto (-45), 3) := by decide +kernel
theorem dX1_tellCorner_136 : decode cX1_tellCorner 136 = .ok (.aload_n 0, 1) := by decide +kernel
theorem dX1_tellCorner_137 : decode cX1_tellCorner 137 = .ok (.getfield 25, 3) := by decide +kernel
theorem dX1_tellCorner_140 : decode cX1_tellCorner 140 = .ok (.iconst 1, 1) := by decide +kernel
theorem dX1_tellCorner_141 : decode cX1_tellCorner 141 = .ok (.iload_n 2, 1) := by decide +kernel
theorem dX1_tellCorner_142 : decode cX1_tellCorner 142 = .ok (.iastore, 1) := by decide +kernel
theorem dX1_tellCorner_143 : decode cX1_tellCorner 143 = .ok (.aload_n 0, 1) := by decide +kernel
theorem dX1_tellCorner_144 : decode cX1_tellCorner 144 = .ok (.getfield 25, 3) := by decide +kernel
theorem dX1_tellCorner_147 : decode cX1_tellCorner 147 = .ok (.iconst 3, 1) := by decide +kernel
theorem dX1_tellCorner_148 : decode cX1_tellCorner 148 = .ok (.aload_n 0, 1) := by decide +kernel
theorem dX1_tellCorner_149 : decode cX1_tellCorner 149 = .ok (.getfield 31, 3) := by decide +kernel
theorem dX1_tellCorner_152 : decode cX1_tellCorner 152 = .ok (.iload_n 1, 1) := by decide +kernel
theorem dX1_tellCorner_153 : decode cX1_tellCorner 153 = .ok (.iload_n 2, 1) := by decide +kernel
theorem dX1_tellCorner_154 : decode cX1_tellCorner 154 = .ok (.invokevirtual 102, 3) := by decide +kernel
theorem dX1_tellCorner_157 : decode cX1_tellCorner 157 = .ok (.iastore, 1) := by decide +kernel
theorem dX1_tellCorner_158 : decode cX1_tellCorner 158 = .ok (.aload_n 0, 1) := by decide +kernel
theorem dX1_tellCorner_159 : decode cX1_tellCorner 159 = .ok (.getfield 25, 3) := by decide +kernel
theorem dX1_tellCorner_162 : decode cX1_tellCorner 162 = .ok (.bipush 7, 2) := by decide +kernel
theorem dX1_tellCorner_164 : decode cX1_tellCorner 164 = .ok (.iload_n 3, 1) := by decide +kernel
theorem dX1_tellCorner_165 : decode cX1_tellCorner 165 = .ok (.iastore, 1) := by decide +kernel
theorem dX1_tellCorner_166 : decode cX1_tellCorner 166 = .ok (.aload_n 0, 1) := by decide +kernel
theorem dX1_tellCorner_167 : decode cX1_tellCorner 167 = .ok (.getfield 25, 3) := by decide +kernel
theorem dX1_tellCorner_170 : decode cX1_tellCorner 170 = .ok (.bipush 8, 2) := by decide +kernel
theorem dX1_tellCorner_172 : decode cX1_tellCorner 172 = .ok (.iload 4, 2) := by decide +kernel
theorem dX1_tellCorner_174 : decode cX1_tellCorner 174 = .ok (.iastore, 1) := by decide +kernel
theorem dX1_tellCorner_175 : decode cX1_tellCorner 175 = .ok (.aload_n 0, 1) := by decide +kernel
theorem dX1_tellCorner_176 : decode cX1_tellCorner 176 = .ok (.getfield 25, 3) := by decide +kernel
theorem dX1_tellCorner_179 : decode cX1_tellCorner 179 = .ok (.bipush 9, 2) := by decide +kernel
theorem dX1_tellCorner_181 : decode cX1_tellCorner 181 = .ok (.iload 5, 2) := by decide +kernel
theorem dX1_tellCorner_183 : decode cX1_tellCorner 183 = .ok (.iastore, 1) := by decide +kernel
theorem dX1_tellCorner_184 : decode cX1_tellCorner 184 = .ok (.return_, 1) := by decide +kernel
theorem dX1_tellWalker_0 : decode cX1_tellWalker 0 = .ok (.aload_n 0, 1) := by decide +kernel
theorem dX1_tellWalker_1 : decode cX1_tellWalker 1 = .ok (.getfield 25, 3) := by decide +kernel
theorem dX1_tellWalker_4 : decode cX1_tellWalker 4 = .ok (.iconst 0, 1) := by decide +kernel
theorem dX1_tellWalker_5 : decode cX1_tellWalker 5 = .ok (.iload_n 1, 1) := by decide +kernel
theorem dX1_tellWalker_6 : decode cX1_tellWalker 6 = .ok (.iastore, 1) := by decide +kernel
theorem dX1_tellWalker_7 : decode cX1_tellWalker 7 = .ok (.aload_n 0, 1) := by decide +kernel
theorem dX1_tellWalker_8 : decode cX1_tellWalker 8 = .ok (.getfield 25, 3) := by decide +kernel
theorem dX1_tellWalker_11 : decode cX1_tellWalker 11 = .ok (.iconst 2, 1) := by decide +kernel
theorem dX1_tellWalker_12 : decode cX1_tellWalker 12 = .ok (.aload_n 0, 1) := by decide +kernel
theorem dX1_tellWalker_13 : decode cX1_tellWalker 13 = .ok (.getfield 12, 3) := by decide +kernel
theorem dX1_tellWalker_16 : decode cX1_tellWalker 16 = .ok (.getfield 64, 3) := by decide +kernel
theorem dX1_tellWalker_19 : decode cX1_tellWalker 19 = .ok (.iload_n 1, 1) := by decide +kernel
theorem dX1_tellWalker_20 : decode cX1_tellWalker 20 = .ok (.iaload, 1) := by decide +kernel
theorem dX1_tellWalker_21 : decode cX1_tellWalker 21 = .ok (.iastore, 1) := by decide +kernel
theorem dX1_tellWalker_22 : decode cX1_tellWalker 22 = .ok (.aload_n 0, 1) := by decide +kernel
theorem dX1_tellWalker_23 : decode cX1_tellWalker 23 = .ok (.getfield 25, 3) := by decide +kernel
theorem dX1_tellWalker_26 : decode cX1_tellWalker 26 = .ok (.iconst 4, 1) := by decide +kernel
theorem dX1_tellWalker_27 : decode cX1_tellWalker 27 = .ok (.aload_n 0, 1) := by decide +kernel
theorem dX1_tellWalker_28 : decode cX1_tellWalker 28 = .ok (.getfield 12, 3) := by decide +kernel
theorem dX1_tellWalker_31 : decode cX1_tellWalker 31 = .ok (.getfield 122, 3) := by decide +kernel
theorem dX1_tellWalker_34 : decode cX1_tellWalker 34 = .ok (.iload_n 1, 1) := by decide +kernel
theorem dX1_tellWalker_35 : decode cX1_tellWalker 35 = .ok (.iaload, 1) := by decide +kernel
theorem dX1_tellWalker_36 : decode cX1_tellWalker 36 = .ok (.iastore, 1) := by decide +kernel
theorem dX1_tellWalker_37 : decode cX1_tellWalker 37 = .ok (.aload_n 0, 1) := by decide +kernel
theorem dX1_tellWalker_38 : decode cX1_tellWalker 38 = .ok (.getfield 25, 3) := by decide +kernel
theorem dX1_tellWalker_41 : decode cX1_tellWalker 41 = .ok (.iconst 5, 1) := by decide +kernel
theorem dX1_tellWalker_42 : decode cX1_tellWalker 42 = .ok (.aload_n 0, 1) := by decide +kernel
theorem dX1_tellWalker_43 : decode cX1_tellWalker 43 = .ok (.getfield 12, 3) := by decide +kernel
theorem dX1_tellWalker_46 : decode cX1_tellWalker 46 = .ok (.getfield 99, 3) := by decide +kernel
theorem dX1_tellWalker_49 : decode cX1_tellWalker 49 = .ok (.iload_n 1, 1) := by decide +kernel
theorem dX1_tellWalker_50 : decode cX1_tellWalker 50 = .ok (.iaload, 1) := by decide +kernel
theorem dX1_tellWalker_51 : decode cX1_tellWalker 51 = .ok (.iastore, 1) := by decide +kernel
theorem dX1_tellWalker_52 : decode cX1_tellWalker 52 = .ok (.aload_n 0, 1) := by decide +kernel
theorem dX1_tellWalker_53 : decode cX1_tellWalker 53 = .ok (.getfield 25, 3) := by decide +kernel
theorem dX1_tellWalker_56 : decode cX1_tellWalker 56 = .ok (.bipush 6, 2) := by decide +kernel
theorem dX1_tellWalker_58 : decode cX1_tellWalker 58 = .ok (.aload_n 0, 1) := by decide +kernel
theorem dX1_tellWalker_59 : decode cX1_tellWalker 59 = .ok (.getfield 12, 3) := by decide +kernel
theorem dX1_tellWalker_62 : decode cX1_tellWalker 62 = .ok (.getfield 87, 3) := by decide +kernel
theorem dX1_tellWalker_65 : decode cX1_tellWalker 65 = .ok (.iload_n 1, 1) := by decide +kernel
theorem dX1_tellWalker_66 : decode cX1_tellWalker 66 = .ok (.iaload, 1) := by decide +kernel
theorem dX1_tellWalker_67 : decode cX1_tellWalker 67 = .ok (.iastore, 1) := by decide +kernel
theorem dX1_tellWalker_68 : decode cX1_tellWalker 68 = .ok (.aload_n 0, 1) := by decide +kernel
theorem dX1_tellWalker_69 : decode cX1_tellWalker 69 = .ok (.getfield 25, 3) := by decide +kernel
theorem dX1_tellWalker_72 : decode cX1_tellWalker 72 = .ok (.bipush 10, 2) := by decide +kernel
theorem dX1_tellWalker_74 : decode cX1_tellWalker 74 = .ok (.aload_n 0, 1) := by decide +kernel
theorem dX1_tellWalker_75 : decode cX1_tellWalker 75 = .ok (.getfield 12, 3) := by decide +kernel
theorem dX1_tellWalker_78 : decode cX1_tellWalker 78 = .ok (.getfield 81, 3) := by decide +kernel
theorem dX1_tellWalker_81 : decode cX1_tellWalker 81 = .ok (.iastore, 1) := by decide +kernel
theorem dX1_tellWalker_82 : decode cX1_tellWalker 82 = .ok (.return_, 1) := by decide +kernel
set_option maxHeartbeats 4000000 in
set_option maxRecDepth 100000 in
theorem c_start (l : Launch) (D : va_G) (K : Nat → ClassId) (ad : Nat → Nat) (z : TS) (o : Ok z) (p0 : Nat) (ap0 : at_ 8 p0 = true) (p1 : Nat) (ap1 : at_ 4 p1 = true) (p2 : Nat) (ap2 : at_ 6 p2 = true) : cV l yX1_start cX1_start 4 ({ frames := 2, cells := 0, slots := 0, locals := 47 }) D K ad z [.ref (ad 324), .ref (ad p0), .ref (ad p1), .ref (ad p2)] (fun u => Ok u ∧ KC z u) := by
  refine t_enterV (by decide) (Nat.le_of_ble_eq_true rfl) rfl rfl ?_
  intro p e s m args below meth c A R Q H locs ls E hfr hlo RET G hl
  have E : mE p s m meth c cX1_start args 4 RX1 D K A := E
  have hl : lv_has ls 4 [(0, .ref (ad 324)), (1, .ref (ad p0)), (2, .ref (ad p1)), (3, .ref (ad p2))] := hl
  refine lv_aload_n E.1 E.2.1 dX1_start_0 rfl (lv_at hl 0 rfl) ?_
  refine lv_aload_n E.1 E.2.1 dX1_start_1 rfl (lv_at hl 1 rfl) ?_
  refine t_putp E G 1 4 (rfl : ro 324 = 1) (v := p0) (C := RX1) (T := TX1) (N := 6) rfl (by decide) (by decide) (by decide) rfl rfl mw_fl_1_31 rfl dX1_start_2 (fun H locs G => ?_)
  obtain ⟨zz1, G, oo2, kk3, h4⟩ : ∃ u : TS, mG D A s H locs (wd K ad u) ∧ Ok u ∧ KC z u ∧ tP u 324 4 = p0 := ⟨_, G, ok_p o 1 (rfl : ro 324 = 1) ap0, KC.tr KC.rf (KC_p), sP_self⟩
  refine lv_aload_n E.1 E.2.1 dX1_start_5 rfl (lv_at hl 0 rfl) ?_
  refine lv_aload_n E.1 E.2.1 dX1_start_6 rfl (lv_at hl 2 rfl) ?_
  refine t_putp E G 1 5 (rfl : ro 324 = 1) (v := p1) (C := RX1) (T := TX1) (N := 6) rfl (by decide) (by decide) (by decide) rfl rfl mw_fl_1_38 rfl dX1_start_7 (fun H locs G => ?_)
  obtain ⟨zz5, G, oo6, kk7, h8, h9⟩ : ∃ u : TS, mG D A s H locs (wd K ad u) ∧ Ok u ∧ KC z u ∧ tP u 324 4 = p0 ∧ tP u 324 5 = p1 := ⟨_, G, ok_p oo2 1 (rfl : ro 324 = 1) ap1, KC.tr kk3 (KC_p), (sP_k h4 (by decide)), sP_self⟩
  refine lv_aload_n E.1 E.2.1 dX1_start_10 rfl (lv_at hl 0 rfl) ?_
  refine t_get E G 1 0 (rfl : ro 324 = 1) (C := RX1) (T := TX1) (N := 6) rfl (by decide) (by decide) (by decide) mw_fl_1_12 (v := .ref (ad 325)) (fvl_o (n := 1) rfl) dX1_start_11 ?_
  refine lv_aload_n E.1 E.2.1 dX1_start_14 rfl (lv_at hl 3 rfl) ?_
  refine t_vv E G hl (s_copy l D K ad zz5 oo6 325 (by decide : at_ 6 325 = true) p2 ap2) 6 (rfl : ro 325 = 6) (by decide) rfl rfl 1 rfl mw_code_X6_copyFrom mw_ini_6 mw_ml_1_42 mw_inst_X6_copyFrom mw_sel_X6_copyFrom hd_X6_copyFrom ⟨Nat.le_trans (by decide) hfr, Nat.le_trans (by decide) hlo⟩ rfl rfl rfl (Nat.le_of_ble_eq_true rfl) dX1_start_15 (fun zz10 H locs hp12 G => ?_)
  obtain ⟨oo13, kk14⟩ := hp12
  have kk15 : KC z zz10 := KC.tr kk7 kk14
  exact RET G ⟨oo13, kk15⟩ dX1_start_18
set_option maxHeartbeats 4000000 in
set_option maxRecDepth 100000 in
theorem c_tellWalker (l : Launch) (D : va_G) (K : Nat → ClassId) (ad : Nat → Nat) (z : TS) (o : Ok z) (x1 : Int32) (bx1 : iv 0 4 x1) : cV l yX1_tellWalker cX1_tellWalker 2 ({ frames := 0, cells := 0, slots := 0, locals := 0 }) D K ad z [.ref (ad 324), .int x1] (fun u => Ok u ∧ KC z u) := by
  refine t_enterV (by decide) (Nat.le_of_ble_eq_true rfl) rfl rfl ?_
  intro p e s m args below meth c A R Q H locs ls E hfr hlo RET G hl
  have E : mE p s m meth c cX1_tellWalker args 2 RX1 D K A := E
  have hl : lv_has ls 2 [(0, .ref (ad 324)), (1, .int x1)] := hl
  refine lv_aload_n E.1 E.2.1 dX1_tellWalker_0 rfl (lv_at hl 0 rfl) ?_
  refine t_get E G 1 3 (rfl : ro 324 = 1) (C := RX1) (T := TX1) (N := 6) rfl (by decide) (by decide) (by decide) mw_fl_1_25 (v := .ref (ad 334)) (fvl_o (n := 10) rfl) dX1_tellWalker_1 ?_
  refine lv_iconst (v := 0) E.1 E.2.1 dX1_tellWalker_4 (by decide) ?_
  refine lv_iload_n E.1 E.2.1 dX1_tellWalker_5 rfl (lv_at hl 1 rfl) ?_
  refine t_iast E G 41 (rfl : ro 334 = 41) (by decide) (by decide) rfl (n := 11) rfl (by unfold vp_in; decide) dX1_tellWalker_6 (fun H locs G => ?_)
  obtain ⟨zz1, G, oo2, kk3⟩ : ∃ u : TS, mG D A s H locs (wd K ad u) ∧ Ok u ∧ KC z u := ⟨_, G, ok_uc o 41 (rfl : ro 334 = 41) (by decide) (iv_mono bx1 (by decide) (by decide)) (by decide), KC.tr KC.rf (KC_r 41 (rfl : ro 334 = 41) (by decide))⟩
  refine lv_aload_n E.1 E.2.1 dX1_tellWalker_7 rfl (lv_at hl 0 rfl) ?_
  refine t_get E G 1 3 (rfl : ro 324 = 1) (C := RX1) (T := TX1) (N := 6) rfl (by decide) (by decide) (by decide) mw_fl_1_25 (v := .ref (ad 334)) (fvl_o (n := 10) rfl) dX1_tellWalker_8 ?_
  refine lv_iconst (v := 2) E.1 E.2.1 dX1_tellWalker_11 (by decide) ?_
  refine lv_aload_n E.1 E.2.1 dX1_tellWalker_12 rfl (lv_at hl 0 rfl) ?_
  refine t_get E G 1 0 (rfl : ro 324 = 1) (C := RX1) (T := TX1) (N := 6) rfl (by decide) (by decide) (by decide) mw_fl_1_12 (v := .ref (ad 325)) (fvl_o (n := 1) rfl) dX1_tellWalker_13 ?_
  refine t_get E G 6 0 (rfl : ro 325 = 6) (C := RX6) (T := TX6) (N := 8) rfl (by decide) (by decide) (by decide) mw_fl_1_64 (v := .ref (ad 326)) (fvl_o (n := 1) rfl) dX1_tellWalker_16 ?_
  refine lv_iload_n E.1 E.2.1 dX1_tellWalker_19 rfl (lv_at hl 1 rfl) ?_
  refine t_iald E G 21 (rfl : ro 326 = 21) (by decide) (by decide) rfl (n := 5) rfl (iv_vp bx1 (by decide) (by decide)) dX1_tellWalker_20 ?_
  refine lv_topi (fun v4 e5 => ?_)
  have b6 : iv 0 7 v4 := by rw [e5]; exact oo2.ac 21 (rfl : ro 326 = 21) (by decide) _
  refine t_iast E G 41 (rfl : ro 334 = 41) (by decide) (by decide) rfl (n := 11) rfl (by unfold vp_in; decide) dX1_tellWalker_21 (fun H locs G => ?_)
  obtain ⟨zz7, G, oo8, kk9⟩ : ∃ u : TS, mG D A s H locs (wd K ad u) ∧ Ok u ∧ KC z u := ⟨_, G, ok_uc oo2 41 (rfl : ro 334 = 41) (by decide) (iv_mono b6 (by decide) (by decide)) (by decide), KC.tr kk3 (KC_r 41 (rfl : ro 334 = 41) (by decide))⟩
  refine lv_aload_n E.1 E.2.1 dX1_tellWalker_22 rfl (lv_at hl 0 rfl) ?_
  refine t_get E G 1 3 (rfl : ro 324 = 1) (C := RX1) (T := TX1) (N := 6) rfl (by decide) (by decide) (by decide) mw_fl_1_25 (v := .ref (ad 334)) (fvl_o (n := 10) rfl) dX1_tellWalker_23 ?_
  refine lv_iconst (v := 4) E.1 E.2.1 dX1_tellWalker_26 (by decide) ?_
  refine lv_aload_n E.1 E.2.1 dX1_tellWalker_27 rfl (lv_at hl 0 rfl) ?_
  refine t_get E G 1 0 (rfl : ro 324 = 1) (C := RX1) (T := TX1) (N := 6) rfl (by decide) (by decide) (by decide) mw_fl_1_12 (v := .ref (ad 325)) (fvl_o (n := 1) rfl) dX1_tellWalker_28 ?_
  refine t_get E G 6 1 (rfl : ro 325 = 6) (C := RX6) (T := TX6) (N := 8) rfl (by decide) (by decide) (by decide) mw_fl_1_122 (v := .ref (ad 327)) (fvl_o (n := 2) rfl) dX1_tellWalker_31 ?_
  refine lv_iload_n E.1 E.2.1 dX1_tellWalker_34 rfl (lv_at hl 1 rfl) ?_
  refine t_iald E G 22 (rfl : ro 327 = 22) (by decide) (by decide) rfl (n := 5) rfl (iv_vp bx1 (by decide) (by decide)) dX1_tellWalker_35 ?_
  refine lv_topi (fun v10 e11 => ?_)
  refine t_iast E G 41 (rfl : ro 334 = 41) (by decide) (by decide) rfl (n := 11) rfl (by unfold vp_in; decide) dX1_tellWalker_36 (fun H locs G => ?_)
  obtain ⟨zz12, G, oo13, kk14⟩ : ∃ u : TS, mG D A s H locs (wd K ad u) ∧ Ok u ∧ KC z u := ⟨_, G, ok_uc oo8 41 (rfl : ro 334 = 41) (by decide) (iv_mono (iv_full v10) (by decide) (by decide)) (by decide), KC.tr kk9 (KC_r 41 (rfl : ro 334 = 41) (by decide))⟩
  refine lv_aload_n E.1 E.2.1 dX1_tellWalker_37 rfl (lv_at hl 0 rfl) ?_
  refine t_get E G 1 3 (rfl : ro 324 = 1) (C := RX1) (T := TX1) (N := 6) rfl (by decide) (by decide) (by decide) mw_fl_1_25 (v := .ref (ad 334)) (fvl_o (n := 10) rfl) dX1_tellWalker_38 ?_
  refine lv_iconst (v := 5) E.1 E.2.1 dX1_tellWalker_41 (by decide) ?_
  refine lv_aload_n E.1 E.2.1 dX1_tellWalker_42 rfl (lv_at hl 0 rfl) ?_
  refine t_get E G 1 0 (rfl : ro 324 = 1) (C := RX1) (T := TX1) (N := 6) rfl (by decide) (by decide) (by decide) mw_fl_1_12 (v := .ref (ad 325)) (fvl_o (n := 1) rfl) dX1_tellWalker_43 ?_
  refine t_get E G 6 2 (rfl : ro 325 = 6) (C := RX6) (T := TX6) (N := 8) rfl (by decide) (by decide) (by decide) mw_fl_1_99 (v := .ref (ad 328)) (fvl_o (n := 3) rfl) dX1_tellWalker_46 ?_
  refine lv_iload_n E.1 E.2.1 dX1_tellWalker_49 rfl (lv_at hl 1 rfl) ?_
  refine t_iald E G 22 (rfl : ro 328 = 22) (by decide) (by decide) rfl (n := 5) rfl (iv_vp bx1 (by decide) (by decide)) dX1_tellWalker_50 ?_
  refine lv_topi (fun v15 e16 => ?_)
  refine t_iast E G 41 (rfl : ro 334 = 41) (by decide) (by decide) rfl (n := 11) rfl (by unfold vp_in; decide) dX1_tellWalker_51 (fun H locs G => ?_)
  obtain ⟨zz17, G, oo18, kk19⟩ : ∃ u : TS, mG D A s H locs (wd K ad u) ∧ Ok u ∧ KC z u := ⟨_, G, ok_uc oo13 41 (rfl : ro 334 = 41) (by decide) (iv_mono (iv_full v15) (by decide) (by decide)) (by decide), KC.tr kk14 (KC_r 41 (rfl : ro 334 = 41) (by decide))⟩
  refine lv_aload_n E.1 E.2.1 dX1_tellWalker_52 rfl (lv_at hl 0 rfl) ?_
  refine t_get E G 1 3 (rfl : ro 324 = 1) (C := RX1) (T := TX1) (N := 6) rfl (by decide) (by decide) (by decide) mw_fl_1_25 (v := .ref (ad 334)) (fvl_o (n := 10) rfl) dX1_tellWalker_53 ?_
  refine lv_bipush (v := 6) E.1 E.2.1 dX1_tellWalker_56 (by decide) ?_
  refine lv_aload_n E.1 E.2.1 dX1_tellWalker_58 rfl (lv_at hl 0 rfl) ?_
  refine t_get E G 1 0 (rfl : ro 324 = 1) (C := RX1) (T := TX1) (N := 6) rfl (by decide) (by decide) (by decide) mw_fl_1_12 (v := .ref (ad 325)) (fvl_o (n := 1) rfl) dX1_tellWalker_59 ?_
  refine t_get E G 6 3 (rfl : ro 325 = 6) (C := RX6) (T := TX6) (N := 8) rfl (by decide) (by decide) (by decide) mw_fl_1_87 (v := .ref (ad 329)) (fvl_o (n := 4) rfl) dX1_tellWalker_62 ?_
  refine lv_iload_n E.1 E.2.1 dX1_tellWalker_65 rfl (lv_at hl 1 rfl) ?_
  refine t_iald E G 22 (rfl : ro 329 = 22) (by decide) (by decide) rfl (n := 5) rfl (iv_vp bx1 (by decide) (by decide)) dX1_tellWalker_66 ?_
  refine lv_topi (fun v20 e21 => ?_)
  refine t_iast E G 41 (rfl : ro 334 = 41) (by decide) (by decide) rfl (n := 11) rfl (by unfold vp_in; decide) dX1_tellWalker_67 (fun H locs G => ?_)
  obtain ⟨zz22, G, oo23, kk24⟩ : ∃ u : TS, mG D A s H locs (wd K ad u) ∧ Ok u ∧ KC z u := ⟨_, G, ok_uc oo18 41 (rfl : ro 334 = 41) (by decide) (iv_mono (iv_full v20) (by decide) (by decide)) (by decide), KC.tr kk19 (KC_r 41 (rfl : ro 334 = 41) (by decide))⟩
  refine lv_aload_n E.1 E.2.1 dX1_tellWalker_68 rfl (lv_at hl 0 rfl) ?_
  refine t_get E G 1 3 (rfl : ro 324 = 1) (C := RX1) (T := TX1) (N := 6) rfl (by decide) (by decide) (by decide) mw_fl_1_25 (v := .ref (ad 334)) (fvl_o (n := 10) rfl) dX1_tellWalker_69 ?_
  refine lv_bipush (v := 10) E.1 E.2.1 dX1_tellWalker_72 (by decide) ?_
  refine lv_aload_n E.1 E.2.1 dX1_tellWalker_74 rfl (lv_at hl 0 rfl) ?_
  refine t_get E G 1 0 (rfl : ro 324 = 1) (C := RX1) (T := TX1) (N := 6) rfl (by decide) (by decide) (by decide) mw_fl_1_12 (v := .ref (ad 325)) (fvl_o (n := 1) rfl) dX1_tellWalker_75 ?_
  refine t_get E G 6 7 (rfl : ro 325 = 6) (C := RX6) (T := TX6) (N := 8) rfl (by decide) (by decide) (by decide) mw_fl_1_81 (fvl_i rfl) dX1_tellWalker_78 ?_
  refine lv_topi (fun v25 e26 => ?_)
  refine t_iast E G 41 (rfl : ro 334 = 41) (by decide) (by decide) rfl (n := 11) rfl (by unfold vp_in; decide) dX1_tellWalker_81 (fun H locs G => ?_)
  obtain ⟨zz27, G, oo28, kk29, h30⟩ : ∃ u : TS, mG D A s H locs (wd K ad u) ∧ Ok u ∧ KC z u ∧ tI u 325 7 = v25 := ⟨_, G, ok_uc oo23 41 (rfl : ro 334 = 41) (by decide) (iv_mono (iv_full v25) (by decide) (by decide)) (by decide), KC.tr kk24 (KC_r 41 (rfl : ro 334 = 41) (by decide)), e26.symm⟩
  exact RET G ⟨oo28, kk29⟩ dX1_tellWalker_82
set_option maxHeartbeats 4000000 in
set_option maxRecDepth 100000 in
theorem c_tellCorner (l : Launch) (D : va_G) (K : Nat → ClassId) (ad : Nat → Nat) (z : TS) (o : Ok z) (x1 : Int32) (bx1 : iv 0 4 x1) (x2 : Int32) (bx2 : iv 0 7 x2) : cV l yX1_tellCorner cX1_tellCorner 7 ({ frames := 1, cells := 0, slots := 0, locals := 23 }) D K ad z [.ref (ad 324), .int x1, .int x2] (fun u => Ok u ∧ KC z u) := by
  refine t_enterV (by decide) (Nat.le_of_ble_eq_true rfl) rfl rfl ?_
  intro p e s m args below meth c A R Q H locs ls E hfr hlo RET G hl
  have E : mE p s m meth c cX1_tellCorner args 7 RX1 D K A := E
  have hl : lv_has ls 7 [(0, .ref (ad 324)), (1, .int x1), (2, .int x2)] := hl
  refine lv_iconst (v := 0) E.1 E.2.1 dX1_tellCorner_0 (by decide) ?_
  refine lv_istore_n (lv' := [(3, .int 0), (0, .ref (ad 324)), (1, .int x1), (2, .int x2)]) E.1 E.2.1 dX1_tellCorner_1 rfl hl (by decide) rfl (fun ls hl => ?_)
  refine lv_iconst (v := 0) E.1 E.2.1 dX1_tellCorner_2 (by decide) ?_
  refine lv_istore (lv' := [(4, .int 0), (3, .int 0), (0, .ref (ad 324)), (1, .int x1), (2, .int x2)]) E.1 E.2.1 dX1_tellCorner_3 hl (by decide) rfl (fun ls hl => ?_)
  refine lv_iconst (v := 0) E.1 E.2.1 dX1_tellCorner_5 (by decide) ?_
  refine lv_istore (lv' := [(5, .int 0), (4, .int 0), (3, .int 0), (0, .ref (ad 324)), (1, .int x1), (2, .int x2)]) E.1 E.2.1 dX1_tellCorner_6 hl (by decide) rfl (fun ls hl => ?_)
  have LOOP8 : ∀ n : Nat, ∀ (y1 : Int32) (y2 : Int32) (y3 : Int32) (H : Heap) (locs : List Loc) (ls : Array Slot), mG D A s H locs (wd K ad z) → iv 0 6 y1 → 6 < y1.toInt + (n : Int) → lv_has ls 7 [(5, .int y1), (4, .int y2), (3, .int y3), (0, .ref (ad 324)), (1, .int x1), (2, .int x2)] → W p l e R s m args below meth c H locs 0 0 Q (F0 m 8 ls []) := by
    intro n
    induction n with
    | zero =>
      intro y1 y2 y3 H locs ls G b8 m7 hl
      exact absurd m7 (by have := b8.1; have := b8.2; omega)
    | succ n ih8 =>
      intro y1 y2 y3 H locs ls G b8 m7 hl
      refine lv_iload E.1 E.2.1 dX1_tellCorner_8 (lv_at hl 0 rfl) ?_
      refine lv_aload_n E.1 E.2.1 dX1_tellCorner_10 rfl (lv_at hl 3 rfl) ?_
      refine t_get E G 1 4 (rfl : ro 324 = 1) (C := RX1) (T := TX1) (N := 6) rfl (by decide) (by decide) (by decide) mw_fl_1_31 (fvl_d rfl) dX1_tellCorner_11 ?_
      obtain ⟨qq9, eqq9⟩ : ∃ q : Nat, q = tP z 324 4 := ⟨_, rfl⟩
      have aqq9 : at_ 8 qq9 = true := by rw [eqq9]; exact o.p 1 4 (rfl : ro 324 = 1) (by decide)
      rw [← eqq9]
      refine t_get E G 8 2 (at_ro (i := 0) aqq9 (by decide) : ro qq9 = 8) (C := RX8) (T := TX8) (N := 10) rfl (by decide) (by decide) (by decide) mw_fl_1_125 (fvl_i rfl) dX1_tellCorner_14 ?_
      refine lv_topi (fun v10 e11 => ?_)
      have b12 : iv 0 6 v10 := by rw [e11]; exact o.i 8 2 (at_ro (i := 0) aqq9 (by decide) : ro qq9 = 8)
      refine lv_icmp_ge (tgt := 82) E.1 E.2.1 dX1_tellCorner_17 (by decide) (fun c13 => ?_) (fun c13 => ?_)
      · skip
        refine lv_iconst (v := 0) E.1 E.2.1 dX1_tellCorner_82 (by decide) ?_
        refine lv_istore (lv' := [(5, .int 0), (4, .int y2), (3, .int y3), (0, .ref (ad 324)), (1, .int x1), (2, .int x2)]) E.1 E.2.1 dX1_tellCorner_83 hl (by decide) rfl (fun ls hl => ?_)
        refine lv_iconst (v := 0) E.1 E.2.1 dX1_tellCorner_85 (by decide) ?_
        refine lv_istore (lv' := [(6, .int 0), (5, .int 0), (4, .int y2), (3, .int y3), (0, .ref (ad 324)), (1, .int x1), (2, .int x2)]) E.1 E.2.1 dX1_tellCorner_86 hl (by decide) rfl (fun ls hl => ?_)
        have LOOP88 : ∀ n : Nat, ∀ (y14 : Int32) (y15 : Int32) (H : Heap) (locs : List Loc) (ls : Array Slot), mG D A s H locs (wd K ad z) → iv 0 5 y14 → 5 < y14.toInt + (n : Int) → lv_has ls 7 [(6, .int y14), (5, .int y15), (4, .int y2), (3, .int y3), (0, .ref (ad 324)), (1, .int x1), (2, .int x2)] → W p l e R s m args below meth c H locs 0 0 Q (F0 m 88 ls []) := by
          intro n
          induction n with
          | zero =>
            intro y14 y15 H locs ls G b20 m19 hl
            exact absurd m19 (by have := b20.1; have := b20.2; omega)
          | succ n ih88 =>
            intro y14 y15 H locs ls G b20 m19 hl
            refine lv_iload E.1 E.2.1 dX1_tellCorner_88 (lv_at hl 0 rfl) ?_
            refine lv_aload_n E.1 E.2.1 dX1_tellCorner_90 rfl (lv_at hl 4 rfl) ?_
            refine t_get E G 1 4 (rfl : ro 324 = 1) (C := RX1) (T := TX1) (N := 6) rfl (by decide) (by decide) (by decide) mw_fl_1_31 (fvl_d rfl) dX1_tellCorner_91 ?_
            rw [eqq9.symm]
            refine t_get E G 8 3 (at_ro (i := 0) aqq9 (by decide) : ro qq9 = 8) (C := RX8) (T := TX8) (N := 10) rfl (by decide) (by decide) (by decide) mw_fl_1_50 (fvl_i rfl) dX1_tellCorner_94 ?_
            refine lv_topi (fun v22 e23 => ?_)
            have b24 : iv 0 5 v22 := by rw [e23]; exact o.i 8 3 (at_ro (i := 0) aqq9 (by decide) : ro qq9 = 8)
            refine lv_icmp_ge (tgt := 136) E.1 E.2.1 dX1_tellCorner_97 (by decide) (fun c25 => ?_) (fun c25 => ?_)
            · skip
              refine lv_aload_n E.1 E.2.1 dX1_tellCorner_136 rfl (lv_at hl 4 rfl) ?_
              refine t_get E G 1 3 (rfl : ro 324 = 1) (C := RX1) (T := TX1) (N := 6) rfl (by decide) (by decide) (by decide) mw_fl_1_25 (v := .ref (ad 334)) (fvl_o (n := 10) rfl) dX1_tellCorner_137 ?_
              refine lv_iconst (v := 1) E.1 E.2.1 dX1_tellCorner_140 (by decide) ?_
              refine lv_iload_n E.1 E.2.1 dX1_tellCorner_141 rfl (lv_at hl 6 rfl) ?_
              refine t_iast E G 41 (rfl : ro 334 = 41) (by decide) (by decide) rfl (n := 11) rfl (by unfold vp_in; decide) dX1_tellCorner_142 (fun H locs G => ?_)
              obtain ⟨zz26, G, oo27, kk28, h29, h30, h31⟩ : ∃ u : TS, mG D A s H locs (wd K ad u) ∧ Ok u ∧ KC z u ∧ tI u qq9 2 = v10 ∧ tI u qq9 3 = v22 ∧ tP u 324 4 = qq9 := ⟨_, G, ok_uc o 41 (rfl : ro 334 = 41) (by decide) (iv_mono bx2 (by decide) (by decide)) (by decide), KC.tr KC.rf (KC_r 41 (rfl : ro 334 = 41) (by decide)), e11.symm, e23.symm, eqq9.symm⟩
              refine lv_aload_n E.1 E.2.1 dX1_tellCorner_143 rfl (lv_at hl 4 rfl) ?_
              refine t_get E G 1 3 (rfl : ro 324 = 1) (C := RX1) (T := TX1) (N := 6) rfl (by decide) (by decide) (by decide) mw_fl_1_25 (v := .ref (ad 334)) (fvl_o (n := 10) rfl) dX1_tellCorner_144 ?_
              refine lv_iconst (v := 3) E.1 E.2.1 dX1_tellCorner_147 (by decide) ?_
              refine lv_aload_n E.1 E.2.1 dX1_tellCorner_148 rfl (lv_at hl 4 rfl) ?_
              refine t_get E G 1 4 (rfl : ro 324 = 1) (C := RX1) (T := TX1) (N := 6) rfl (by decide) (by decide) (by decide) mw_fl_1_31 (fvl_d rfl) dX1_tellCorner_149 ?_
              rw [h31]
              refine lv_iload_n E.1 E.2.1 dX1_tellCorner_152 rfl (lv_at hl 5 rfl) ?_
              refine lv_iload_n E.1 E.2.1 dX1_tellCorner_153 rfl (lv_at hl 6 rfl) ?_
              refine t_vi E G hl (t_waysHome l D K ad zz26 oo27 qq9 aqq9 x1 (iv_mono bx1 (by decide) (by decide)) x2 (iv_mono bx2 (by decide) (by decide))) 8 (at_ro (i := 0) aqq9 (by decide) : ro qq9 = 8) (by decide) rfl rfl 2 rfl mw_code_X8_waysHome mw_ini_8 mw_ml_1_102 mw_inst_X8_waysHome mw_sel_X8_waysHome hd_X8_waysHome ⟨Nat.le_trans (by decide) hfr, Nat.le_trans (by decide) hlo⟩ rfl rfl rfl (Nat.le_of_ble_eq_true rfl) dX1_tellCorner_154 (fun r34 zz33 H locs hp35 G => ?_)
              have hz36 := hp35
              rw [hz36] at G
              refine t_iast E G 41 (rfl : ro 334 = 41) (by decide) (by decide) rfl (n := 11) rfl (by unfold vp_in; decide) dX1_tellCorner_157 (fun H locs G => ?_)
              obtain ⟨zz37, G, oo38, kk39, h40, h41, h42⟩ : ∃ u : TS, mG D A s H locs (wd K ad u) ∧ Ok u ∧ KC z u ∧ tI u qq9 2 = v10 ∧ tI u qq9 3 = v22 ∧ tP u 324 4 = qq9 := ⟨_, G, ok_uc oo27 41 (rfl : ro 334 = 41) (by decide) (iv_mono (iv_full r34) (by decide) (by decide)) (by decide), KC.tr kk28 (KC_r 41 (rfl : ro 334 = 41) (by decide)), h29, h30, h31⟩
              refine lv_aload_n E.1 E.2.1 dX1_tellCorner_158 rfl (lv_at hl 4 rfl) ?_
              refine t_get E G 1 3 (rfl : ro 324 = 1) (C := RX1) (T := TX1) (N := 6) rfl (by decide) (by decide) (by decide) mw_fl_1_25 (v := .ref (ad 334)) (fvl_o (n := 10) rfl) dX1_tellCorner_159 ?_
              refine lv_bipush (v := 7) E.1 E.2.1 dX1_tellCorner_162 (by decide) ?_
              refine lv_iload_n E.1 E.2.1 dX1_tellCorner_164 rfl (lv_at hl 3 rfl) ?_
              refine t_iast E G 41 (rfl : ro 334 = 41) (by decide) (by decide) rfl (n := 11) rfl (by unfold vp_in; decide) dX1_tellCorner_165 (fun H locs G => ?_)
              obtain ⟨zz43, G, oo44, kk45, h46, h47, h48⟩ : ∃ u : TS, mG D A s H locs (wd K ad u) ∧ Ok u ∧ KC z u ∧ tI u qq9 2 = v10 ∧ tI u qq9 3 = v22 ∧ tP u 324 4 = qq9 := ⟨_, G, ok_uc oo38 41 (rfl : ro 334 = 41) (by decide) (iv_mono (iv_full y3) (by decide) (by decide)) (by decide), KC.tr kk39 (KC_r 41 (rfl : ro 334 = 41) (by decide)), h40, h41, h42⟩
              refine lv_aload_n E.1 E.2.1 dX1_tellCorner_166 rfl (lv_at hl 4 rfl) ?_
              refine t_get E G 1 3 (rfl : ro 324 = 1) (C := RX1) (T := TX1) (N := 6) rfl (by decide) (by decide) (by decide) mw_fl_1_25 (v := .ref (ad 334)) (fvl_o (n := 10) rfl) dX1_tellCorner_167 ?_
              refine lv_bipush (v := 8) E.1 E.2.1 dX1_tellCorner_170 (by decide) ?_
              refine lv_iload E.1 E.2.1 dX1_tellCorner_172 (lv_at hl 2 rfl) ?_
              refine t_iast E G 41 (rfl : ro 334 = 41) (by decide) (by decide) rfl (n := 11) rfl (by unfold vp_in; decide) dX1_tellCorner_174 (fun H locs G => ?_)
              obtain ⟨zz49, G, oo50, kk51, h52, h53, h54⟩ : ∃ u : TS, mG D A s H locs (wd K ad u) ∧ Ok u ∧ KC z u ∧ tI u qq9 2 = v10 ∧ tI u qq9 3 = v22 ∧ tP u 324 4 = qq9 := ⟨_, G, ok_uc oo44 41 (rfl : ro 334 = 41) (by decide) (iv_mono (iv_full y2) (by decide) (by decide)) (by decide), KC.tr kk45 (KC_r 41 (rfl : ro 334 = 41) (by decide)), h46, h47, h48⟩
              refine lv_aload_n E.1 E.2.1 dX1_tellCorner_175 rfl (lv_at hl 4 rfl) ?_
              refine t_get E G 1 3 (rfl : ro 324 = 1) (C := RX1) (T := TX1) (N := 6) rfl (by decide) (by decide) (by decide) mw_fl_1_25 (v := .ref (ad 334)) (fvl_o (n := 10) rfl) dX1_tellCorner_176 ?_
              refine lv_bipush (v := 9) E.1 E.2.1 dX1_tellCorner_179 (by decide) ?_
              refine lv_iload E.1 E.2.1 dX1_tellCorner_181 (lv_at hl 1 rfl) ?_
              refine t_iast E G 41 (rfl : ro 334 = 41) (by decide) (by decide) rfl (n := 11) rfl (by unfold vp_in; decide) dX1_tellCorner_183 (fun H locs G => ?_)
              obtain ⟨zz55, G, oo56, kk57, h58, h59, h60⟩ : ∃ u : TS, mG D A s H locs (wd K ad u) ∧ Ok u ∧ KC z u ∧ tI u qq9 2 = v10 ∧ tI u qq9 3 = v22 ∧ tP u 324 4 = qq9 := ⟨_, G, ok_uc oo50 41 (rfl : ro 334 = 41) (by decide) (iv_mono (iv_full y15) (by decide) (by decide)) (by decide), KC.tr kk51 (KC_r 41 (rfl : ro 334 = 41) (by decide)), h52, h53, h54⟩
              exact RET G ⟨oo56, kk57⟩ dX1_tellCorner_184
            · skip
              have b61 : iv 0 4 y14 := lt_l (Int32.not_le.mp c25) b20 b24 (by decide)
              have b62 : iv 1 5 v22 := lt_r (Int32.not_le.mp c25) b20 b24 (by decide)
              refine lv_iload E.1 E.2.1 dX1_tellCorner_100 (lv_at hl 1 rfl) ?_
              refine lv_iload E.1 E.2.1 dX1_tellCorner_102 (lv_at hl 0 rfl) ?_
              refine lv_iload_n E.1 E.2.1 dX1_tellCorner_104 rfl (lv_at hl 5 rfl) ?_
              refine lv_icmp_eq (tgt := 126) E.1 E.2.1 dX1_tellCorner_105 (by decide) (fun c63 => ?_) (fun c63 => ?_)
              · skip
                refine lv_iconst (v := 0) E.1 E.2.1 dX1_tellCorner_126 (by decide) ?_
                refine lv_iadd E.1 E.2.1 dX1_tellCorner_127 ?_
                refine lv_topi (fun v64 e65 => ?_)
                refine lv_istore (lv' := [(5, .int v64), (6, .int y14), (4, .int y2), (3, .int y3), (0, .ref (ad 324)), (1, .int x1), (2, .int x2)]) E.1 E.2.1 dX1_tellCorner_128 hl (by decide) rfl (fun ls hl => ?_)
                obtain ⟨v66, e67⟩ : ∃ w : Int32, w = y14 + (1 : Int32) := ⟨_, rfl⟩
                refine lv_iinc (v := v66) (lv' := [(6, .int v66), (5, .int v64), (4, .int y2), (3, .int y3), (0, .ref (ad 324)), (1, .int x1), (2, .int x2)]) E.1 E.2.1 dX1_tellCorner_130 hl (k := 1) rfl (by rw [e67]; rfl) (by decide) rfl (fun ls hl => ?_)
                have b68 : iv 1 5 v66 := by rw [e67]; exact iv_add b61 (iv_lit (lo := 1) (hi := 1) 1 (by decide) (by decide)) (by decide) (by decide) (by decide) (by decide)
                have t69 : v66.toInt = y14.toInt + 1 := by rw [e67]; exact ti_addc 1 (by decide) b61 (by decide) (by decide)
                refine lv_goto (tgt := 88) E.1 E.2.1 dX1_tellCorner_133 (by decide) ?_
                exact ih88 v66 v64 H locs ls G (iv_mono b68 (by decide) (by decide)) (by have := t69; have := m19; omega) (lv_sub hl [0, 1, 2, 3, 4, 5, 6] rfl)
              · skip
                refine lv_aload_n E.1 E.2.1 dX1_tellCorner_108 rfl (lv_at hl 4 rfl) ?_
                refine t_get E G 1 0 (rfl : ro 324 = 1) (C := RX1) (T := TX1) (N := 6) rfl (by decide) (by decide) (by decide) mw_fl_1_12 (v := .ref (ad 325)) (fvl_o (n := 1) rfl) dX1_tellCorner_109 ?_
                refine t_get E G 6 0 (rfl : ro 325 = 6) (C := RX6) (T := TX6) (N := 8) rfl (by decide) (by decide) (by decide) mw_fl_1_64 (v := .ref (ad 326)) (fvl_o (n := 1) rfl) dX1_tellCorner_112 ?_
                refine lv_iload E.1 E.2.1 dX1_tellCorner_115 (lv_at hl 0 rfl) ?_
                refine t_iald E G 21 (rfl : ro 326 = 21) (by decide) (by decide) rfl (n := 5) rfl (iv_vp b61 (by decide) (by decide)) dX1_tellCorner_117 ?_
                refine lv_topi (fun v70 e71 => ?_)
                have b72 : iv 0 7 v70 := by rw [e71]; exact o.ac 21 (rfl : ro 326 = 21) (by decide) _
                refine lv_iload_n E.1 E.2.1 dX1_tellCorner_118 rfl (lv_at hl 6 rfl) ?_
                refine lv_icmp_ne (tgt := 126) E.1 E.2.1 dX1_tellCorner_119 (by decide) (fun c73 => ?_) (fun c73 => ?_)
                · skip
                  refine lv_iconst (v := 0) E.1 E.2.1 dX1_tellCorner_126 (by decide) ?_
                  refine lv_iadd E.1 E.2.1 dX1_tellCorner_127 ?_
                  refine lv_topi (fun v74 e75 => ?_)
                  refine lv_istore (lv' := [(5, .int v74), (6, .int y14), (4, .int y2), (3, .int y3), (0, .ref (ad 324)), (1, .int x1), (2, .int x2)]) E.1 E.2.1 dX1_tellCorner_128 hl (by decide) rfl (fun ls hl => ?_)
                  obtain ⟨v76, e77⟩ : ∃ w : Int32, w = y14 + (1 : Int32) := ⟨_, rfl⟩
                  refine lv_iinc (v := v76) (lv' := [(6, .int v76), (5, .int v74), (4, .int y2), (3, .int y3), (0, .ref (ad 324)), (1, .int x1), (2, .int x2)]) E.1 E.2.1 dX1_tellCorner_130 hl (k := 1) rfl (by rw [e77]; rfl) (by decide) rfl (fun ls hl => ?_)
                  have b78 : iv 1 5 v76 := by rw [e77]; exact iv_add b61 (iv_lit (lo := 1) (hi := 1) 1 (by decide) (by decide)) (by decide) (by decide) (by decide) (by decide)
                  have t79 : v76.toInt = y14.toInt + 1 := by rw [e77]; exact ti_addc 1 (by decide) b61 (by decide) (by decide)
                  refine lv_goto (tgt := 88) E.1 E.2.1 dX1_tellCorner_133 (by decide) ?_
                  exact ih88 v76 v74 H locs ls G (iv_mono b78 (by decide) (by decide)) (by have := t79; have := m19; omega) (lv_sub hl [0, 1, 2, 3, 4, 5, 6] rfl)
                · skip
                  refine lv_iconst (v := 1) E.1 E.2.1 dX1_tellCorner_122 (by decide) ?_
                  refine lv_goto (tgt := 127) E.1 E.2.1 dX1_tellCorner_123 (by decide) ?_
                  refine lv_iadd E.1 E.2.1 dX1_tellCorner_127 ?_
                  refine lv_topi (fun v80 e81 => ?_)
                  refine lv_istore (lv' := [(5, .int v80), (6, .int y14), (4, .int y2), (3, .int y3), (0, .ref (ad 324)), (1, .int x1), (2, .int x2)]) E.1 E.2.1 dX1_tellCorner_128 hl (by decide) rfl (fun ls hl => ?_)
                  obtain ⟨v82, e83⟩ : ∃ w : Int32, w = y14 + (1 : Int32) := ⟨_, rfl⟩
                  refine lv_iinc (v := v82) (lv' := [(6, .int v82), (5, .int v80), (4, .int y2), (3, .int y3), (0, .ref (ad 324)), (1, .int x1), (2, .int x2)]) E.1 E.2.1 dX1_tellCorner_130 hl (k := 1) rfl (by rw [e83]; rfl) (by decide) rfl (fun ls hl => ?_)
                  have b84 : iv 1 5 v82 := by rw [e83]; exact iv_add b61 (iv_lit (lo := 1) (hi := 1) 1 (by decide) (by decide)) (by decide) (by decide) (by decide) (by decide)
                  have t85 : v82.toInt = y14.toInt + 1 := by rw [e83]; exact ti_addc 1 (by decide) b61 (by decide) (by decide)
                  refine lv_goto (tgt := 88) E.1 E.2.1 dX1_tellCorner_133 (by decide) ?_
                  exact ih88 v82 v80 H locs ls G (iv_mono b84 (by decide) (by decide)) (by have := t85; have := m19; omega) (lv_sub hl [0, 1, 2, 3, 4, 5, 6] rfl)
        exact LOOP88 6 0 0 H locs ls G (iv_mono (iv_lit (lo := 0) (hi := 0) 0 (by decide) (by decide)) (by decide) (by decide)) (by have := (iv_lit (lo := 0) (hi := 0) 0 (by decide) (by decide)).1; omega) (lv_sub hl [0, 1, 2, 3, 4, 5, 6] rfl)
      · skip
        have b86 : iv 0 5 y1 := lt_l (Int32.not_le.mp c13) b8 b12 (by decide)
        have b87 : iv 1 6 v10 := lt_r (Int32.not_le.mp c13) b8 b12 (by decide)
        refine lv_aload_n E.1 E.2.1 dX1_tellCorner_20 rfl (lv_at hl 3 rfl) ?_
        refine t_get E G 1 0 (rfl : ro 324 = 1) (C := RX1) (T := TX1) (N := 6) rfl (by decide) (by decide) (by decide) mw_fl_1_12 (v := .ref (ad 325)) (fvl_o (n := 1) rfl) dX1_tellCorner_21 ?_
        refine t_get E G 6 4 (rfl : ro 325 = 6) (C := RX6) (T := TX6) (N := 8) rfl (by decide) (by decide) (by decide) mw_fl_1_128 (v := .ref (ad 330)) (fvl_o (n := 5) rfl) dX1_tellCorner_24 ?_
        refine lv_iload E.1 E.2.1 dX1_tellCorner_27 (lv_at hl 0 rfl) ?_
        refine t_iald E G 23 (rfl : ro 330 = 23) (by decide) (by decide) rfl (n := 6) rfl (iv_vp b86 (by decide) (by decide)) dX1_tellCorner_29 ?_
        refine lv_topi (fun v88 e89 => ?_)
        refine lv_iload_n E.1 E.2.1 dX1_tellCorner_30 rfl (lv_at hl 5 rfl) ?_
        refine lv_icmp_ne (tgt := 76) E.1 E.2.1 dX1_tellCorner_31 (by decide) (fun c90 => ?_) (fun c90 => ?_)
        · skip
          obtain ⟨v91, e92⟩ : ∃ w : Int32, w = y1 + (1 : Int32) := ⟨_, rfl⟩
          refine lv_iinc (v := v91) (lv' := [(5, .int v91), (4, .int y2), (3, .int y3), (0, .ref (ad 324)), (1, .int x1), (2, .int x2)]) E.1 E.2.1 dX1_tellCorner_76 hl (k := 0) rfl (by rw [e92]; rfl) (by decide) rfl (fun ls hl => ?_)
          have b93 : iv 1 6 v91 := by rw [e92]; exact iv_add b86 (iv_lit (lo := 1) (hi := 1) 1 (by decide) (by decide)) (by decide) (by decide) (by decide) (by decide)
          have t94 : v91.toInt = y1.toInt + 1 := by rw [e92]; exact ti_addc 1 (by decide) b86 (by decide) (by decide)
          refine lv_goto (tgt := 8) E.1 E.2.1 dX1_tellCorner_79 (by decide) ?_
          exact ih8 v91 y2 y3 H locs ls G (iv_mono b93 (by decide) (by decide)) (by have := t94; have := m7; omega) (lv_sub hl [0, 1, 2, 3, 4, 5] rfl)
        · skip
          refine lv_aload_n E.1 E.2.1 dX1_tellCorner_34 rfl (lv_at hl 3 rfl) ?_
          refine t_get E G 1 0 (rfl : ro 324 = 1) (C := RX1) (T := TX1) (N := 6) rfl (by decide) (by decide) (by decide) mw_fl_1_12 (v := .ref (ad 325)) (fvl_o (n := 1) rfl) dX1_tellCorner_35 ?_
          refine lv_iload E.1 E.2.1 dX1_tellCorner_38 (lv_at hl 0 rfl) ?_
          refine t_vi E G hl (s_isSet l D K ad z o 325 (by decide : at_ 6 325 = true) y1) 6 (rfl : ro 325 = 6) (by decide) rfl rfl 1 rfl mw_code_X6_isSet mw_ini_6 mw_ml_1_131 mw_inst_X6_isSet mw_sel_X6_isSet hd_X6_isSet ⟨Nat.le_trans (by decide) hfr, Nat.le_trans (by decide) hlo⟩ rfl rfl rfl (Nat.le_of_ble_eq_true rfl) dX1_tellCorner_40 (fun r96 zz95 H locs hp97 G => ?_)
          obtain ⟨hz99, b98⟩ := hp97
          rw [hz99] at G
          refine lv_if_eq (tgt := 76) E.1 E.2.1 dX1_tellCorner_43 (by decide) (fun c100 => ?_) (fun c100 => ?_)
          · skip
            have b101 : iv 0 0 r96 := iv_eq c100 (iv_lit (lo := 0) (hi := 0) 0 (by decide) (by decide))
            obtain ⟨v102, e103⟩ : ∃ w : Int32, w = y1 + (1 : Int32) := ⟨_, rfl⟩
            refine lv_iinc (v := v102) (lv' := [(5, .int v102), (4, .int y2), (3, .int y3), (0, .ref (ad 324)), (1, .int x1), (2, .int x2)]) E.1 E.2.1 dX1_tellCorner_76 hl (k := 0) rfl (by rw [e103]; rfl) (by decide) rfl (fun ls hl => ?_)
            have b104 : iv 1 6 v102 := by rw [e103]; exact iv_add b86 (iv_lit (lo := 1) (hi := 1) 1 (by decide) (by decide)) (by decide) (by decide) (by decide) (by decide)
            have t105 : v102.toInt = y1.toInt + 1 := by rw [e103]; exact ti_addc 1 (by decide) b86 (by decide) (by decide)
            refine lv_goto (tgt := 8) E.1 E.2.1 dX1_tellCorner_79 (by decide) ?_
            exact ih8 v102 y2 y3 H locs ls G (iv_mono b104 (by decide) (by decide)) (by have := t105; have := m7; omega) (lv_sub hl [0, 1, 2, 3, 4, 5] rfl)
          · skip
            have b106 : iv 1 1 r96 := ne_lo c100 b98 (by decide) (by decide)
            obtain ⟨v107, e108⟩ : ∃ w : Int32, w = y3 + (1 : Int32) := ⟨_, rfl⟩
            refine lv_iinc (v := v107) (lv' := [(3, .int v107), (5, .int y1), (4, .int y2), (0, .ref (ad 324)), (1, .int x1), (2, .int x2)]) E.1 E.2.1 dX1_tellCorner_46 hl (k := 2) rfl (by rw [e108]; rfl) (by decide) rfl (fun ls hl => ?_)
            refine lv_iload E.1 E.2.1 dX1_tellCorner_49 (lv_at hl 2 rfl) ?_
            refine lv_aload_n E.1 E.2.1 dX1_tellCorner_51 rfl (lv_at hl 3 rfl) ?_
            refine t_get E G 1 4 (rfl : ro 324 = 1) (C := RX1) (T := TX1) (N := 6) rfl (by decide) (by decide) (by decide) mw_fl_1_31 (fvl_d rfl) dX1_tellCorner_52 ?_
            rw [eqq9.symm]
            refine lv_aload_n E.1 E.2.1 dX1_tellCorner_55 rfl (lv_at hl 3 rfl) ?_
            refine t_get E G 1 0 (rfl : ro 324 = 1) (C := RX1) (T := TX1) (N := 6) rfl (by decide) (by decide) (by decide) mw_fl_1_12 (v := .ref (ad 325)) (fvl_o (n := 1) rfl) dX1_tellCorner_56 ?_
            refine lv_iload E.1 E.2.1 dX1_tellCorner_59 (lv_at hl 1 rfl) ?_
            refine lv_iload_n E.1 E.2.1 dX1_tellCorner_61 rfl (lv_at hl 4 rfl) ?_
            refine t_vi E G hl (t_wouldHave l D K ad z o qq9 aqq9 325 (by decide : at_ 6 325 = true) y1 (iv_mono b86 (by decide) (by decide)) x1 (iv_mono bx1 (by decide) (by decide))) 8 (at_ro (i := 0) aqq9 (by decide) : ro qq9 = 8) (by decide) rfl rfl 3 rfl mw_code_X8_wouldHave mw_ini_8 mw_ml_1_135 mw_inst_X8_wouldHave mw_sel_X8_wouldHave hd_X8_wouldHave ⟨Nat.le_trans (by decide) hfr, Nat.le_trans (by decide) hlo⟩ rfl rfl rfl (Nat.le_of_ble_eq_true rfl) dX1_tellCorner_62 (fun r111 zz110 H locs hp112 G => ?_)
            obtain ⟨hz114, b113⟩ := hp112
            rw [hz114] at G
            refine lv_if_eq (tgt := 72) E.1 E.2.1 dX1_tellCorner_65 (by decide) (fun c115 => ?_) (fun c115 => ?_)
            · skip
              have b116 : iv 0 0 r111 := iv_eq c115 (iv_lit (lo := 0) (hi := 0) 0 (by decide) (by decide))
              refine lv_iconst (v := 0) E.1 E.2.1 dX1_tellCorner_72 (by decide) ?_
              refine lv_iadd E.1 E.2.1 dX1_tellCorner_73 ?_
              refine lv_topi (fun v117 e118 => ?_)
              refine lv_istore (lv' := [(4, .int v117), (3, .int v107), (5, .int y1), (0, .ref (ad 324)), (1, .int x1), (2, .int x2)]) E.1 E.2.1 dX1_tellCorner_74 hl (by decide) rfl (fun ls hl => ?_)
              obtain ⟨v119, e120⟩ : ∃ w : Int32, w = y1 + (1 : Int32) := ⟨_, rfl⟩
              refine lv_iinc (v := v119) (lv' := [(5, .int v119), (4, .int v117), (3, .int v107), (0, .ref (ad 324)), (1, .int x1), (2, .int x2)]) E.1 E.2.1 dX1_tellCorner_76 hl (k := 2) rfl (by rw [e120]; rfl) (by decide) rfl (fun ls hl => ?_)
              have b121 : iv 1 6 v119 := by rw [e120]; exact iv_add b86 (iv_lit (lo := 1) (hi := 1) 1 (by decide) (by decide)) (by decide) (by decide) (by decide) (by decide)
              have t122 : v119.toInt = y1.toInt + 1 := by rw [e120]; exact ti_addc 1 (by decide) b86 (by decide) (by decide)
              refine lv_goto (tgt := 8) E.1 E.2.1 dX1_tellCorner_79 (by decide) ?_
              exact ih8 v119 v117 v107 H locs ls G (iv_mono b121 (by decide) (by decide)) (by have := t122; have := m7; omega) (lv_sub hl [0, 1, 2, 3, 4, 5] rfl)
            · skip
              have b123 : iv 1 1 r111 := ne_lo c115 b113 (by decide) (by decide)
              refine lv_iconst (v := 1) E.1 E.2.1 dX1_tellCorner_68 (by decide) ?_
              refine lv_goto (tgt := 73) E.1 E.2.1 dX1_tellCorner_69 (by decide) ?_
              refine lv_iadd E.1 E.2.1 dX1_tellCorner_73 ?_
              refine lv_topi (fun v124 e125 => ?_)
              refine lv_istore (lv' := [(4, .int v124), (3, .int v107), (5, .int y1), (0, .ref (ad 324)), (1, .int x1), (2, .int x2)]) E.1 E.2.1 dX1_tellCorner_74 hl (by decide) rfl (fun ls hl => ?_)
              obtain ⟨v126, e127⟩ : ∃ w : Int32, w = y1 + (1 : Int32) := ⟨_, rfl⟩
              refine lv_iinc (v := v126) (lv' := [(5, .int v126), (4, .int v124), (3, .int v107), (0, .ref (ad 324)), (1, .int x1), (2, .int x2)]) E.1 E.2.1 dX1_tellCorner_76 hl (k := 2) rfl (by rw [e127]; rfl) (by decide) rfl (fun ls hl => ?_)
              have b128 : iv 1 6 v126 := by rw [e127]; exact iv_add b86 (iv_lit (lo := 1) (hi := 1) 1 (by decide) (by decide)) (by decide) (by decide) (by decide) (by decide)
              have t129 : v126.toInt = y1.toInt + 1 := by rw [e127]; exact ti_addc 1 (by decide) b86 (by decide) (by decide)
              refine lv_goto (tgt := 8) E.1 E.2.1 dX1_tellCorner_79 (by decide) ?_
              exact ih8 v126 v124 v107 H locs ls G (iv_mono b128 (by decide) (by decide)) (by have := t129; have := m7; omega) (lv_sub hl [0, 1, 2, 3, 4, 5] rfl)
  exact LOOP8 7 0 0 0 H locs ls G (iv_mono (iv_lit (lo := 0) (hi := 0) 0 (by decide) (by decide)) (by decide) (by decide)) (by have := (iv_lit (lo := 0) (hi := 0) 0 (by decide) (by decide)).1; omega) (lv_sub hl [0, 1, 2, 3, 4, 5] rfl)
set_option maxHeartbeats 4000000 in
set_option maxRecDepth 100000 in
theorem c_homeward (l : Launch) (D : va_G) (K : Nat → ClassId) (ad : Nat → Nat) (z : TS) (o : Ok z) (x1 : Int32) (bx1 : iv 0 4 x1) : cI l yX1_homeward cX1_homeward 5 .int ({ frames := 1, cells := 0, slots := 0, locals := 22 }) D K ad z [.ref (ad 324), .int x1] (fun r u => u = z ∧ iv 0 7 r) := by
  refine t_enterI (by decide) (Nat.le_of_ble_eq_true rfl) rfl rfl ?_
  intro p e s m args below meth c A R Q H locs ls E hfr hlo RET G hl
  have E : mE p s m meth c cX1_homeward args 5 RX1 D K A := E
  have hl : lv_has ls 5 [(0, .ref (ad 324)), (1, .int x1)] := hl
  refine lv_aload_n E.1 E.2.1 dX1_homeward_0 rfl (lv_at hl 0 rfl) ?_
  refine t_get E G 1 0 (rfl : ro 324 = 1) (C := RX1) (T := TX1) (N := 6) rfl (by decide) (by decide) (by decide) mw_fl_1_12 (v := .ref (ad 325)) (fvl_o (n := 1) rfl) dX1_homeward_1 ?_
  refine t_get E G 6 0 (rfl : ro 325 = 6) (C := RX6) (T := TX6) (N := 8) rfl (by decide) (by decide) (by decide) mw_fl_1_64 (v := .ref (ad 326)) (fvl_o (n := 1) rfl) dX1_homeward_4 ?_
  refine lv_iload_n E.1 E.2.1 dX1_homeward_7 rfl (lv_at hl 1 rfl) ?_
  refine t_iald E G 21 (rfl : ro 326 = 21) (by decide) (by decide) rfl (n := 5) rfl (iv_vp bx1 (by decide) (by decide)) dX1_homeward_8 ?_
  refine lv_topi (fun v1 e2 => ?_)
  have b3 : iv 0 7 v1 := by rw [e2]; exact o.ac 21 (rfl : ro 326 = 21) (by decide) _
  refine lv_istore_n (lv' := [(2, .int v1), (0, .ref (ad 324)), (1, .int x1)]) E.1 E.2.1 dX1_homeward_9 rfl hl (by decide) rfl (fun ls hl => ?_)
  refine lv_aload_n E.1 E.2.1 dX1_homeward_10 rfl (lv_at hl 1 rfl) ?_
  refine t_get E G 1 4 (rfl : ro 324 = 1) (C := RX1) (T := TX1) (N := 6) rfl (by decide) (by decide) (by decide) mw_fl_1_31 (fvl_d rfl) dX1_homeward_11 ?_
  obtain ⟨qq4, eqq4⟩ : ∃ q : Nat, q = tP z 324 4 := ⟨_, rfl⟩
  have aqq4 : at_ 8 qq4 = true := by rw [eqq4]; exact o.p 1 4 (rfl : ro 324 = 1) (by decide)
  rw [← eqq4]
  refine lv_iload_n E.1 E.2.1 dX1_homeward_14 rfl (lv_at hl 2 rfl) ?_
  refine lv_iload_n E.1 E.2.1 dX1_homeward_15 rfl (lv_at hl 0 rfl) ?_
  refine t_vi E G hl (t_waysHome l D K ad z o qq4 aqq4 x1 (iv_mono bx1 (by decide) (by decide)) v1 (iv_mono b3 (by decide) (by decide))) 8 (at_ro (i := 0) aqq4 (by decide) : ro qq4 = 8) (by decide) rfl rfl 2 rfl mw_code_X8_waysHome mw_ini_8 mw_ml_1_102 mw_inst_X8_waysHome mw_sel_X8_waysHome hd_X8_waysHome ⟨Nat.le_trans (by decide) hfr, Nat.le_trans (by decide) hlo⟩ rfl rfl rfl (Nat.le_of_ble_eq_true rfl) dX1_homeward_16 (fun r6 zz5 H locs hp7 G => ?_)
  have hz8 := hp7
  rw [hz8] at G
  refine lv_istore_n (lv' := [(3, .int r6), (2, .int v1), (0, .ref (ad 324)), (1, .int x1)]) E.1 E.2.1 dX1_homeward_19 rfl hl (by decide) rfl (fun ls hl => ?_)
  refine lv_iconst (v := 0) E.1 E.2.1 dX1_homeward_20 (by decide) ?_
  refine lv_istore (lv' := [(4, .int 0), (3, .int r6), (2, .int v1), (0, .ref (ad 324)), (1, .int x1)]) E.1 E.2.1 dX1_homeward_21 hl (by decide) rfl (fun ls hl => ?_)
  have LOOP23 : ∀ n : Nat, ∀ (y9 : Int32) (H : Heap) (locs : List Loc) (ls : Array Slot), mG D A s H locs (wd K ad z) → iv 0 8 y9 → 8 < y9.toInt + (n : Int) → lv_has ls 5 [(4, .int y9), (3, .int r6), (2, .int v1), (0, .ref (ad 324)), (1, .int x1)] → W p l e R s m args below meth c H locs 0 0 Q (F0 m 23 ls []) := by
    intro n
    induction n with
    | zero =>
      intro y9 H locs ls G b14 m13 hl
      exact absurd m13 (by have := b14.1; have := b14.2; omega)
    | succ n ih23 =>
      intro y9 H locs ls G b14 m13 hl
      refine lv_iload E.1 E.2.1 dX1_homeward_23 (lv_at hl 0 rfl) ?_
      refine lv_aload_n E.1 E.2.1 dX1_homeward_25 rfl (lv_at hl 3 rfl) ?_
      refine t_get E G 1 4 (rfl : ro 324 = 1) (C := RX1) (T := TX1) (N := 6) rfl (by decide) (by decide) (by decide) mw_fl_1_31 (fvl_d rfl) dX1_homeward_26 ?_
      rw [eqq4.symm]
      refine t_get E G 8 0 (at_ro (i := 0) aqq4 (by decide) : ro qq4 = 8) (C := RX8) (T := TX8) (N := 10) rfl (by decide) (by decide) (by decide) mw_fl_1_105 (fvl_i rfl) dX1_homeward_29 ?_
      refine lv_topi (fun v16 e17 => ?_)
      have b18 : iv 0 8 v16 := by rw [e17]; exact o.i 8 0 (at_ro (i := 0) aqq4 (by decide) : ro qq4 = 8)
      refine lv_icmp_ge (tgt := 83) E.1 E.2.1 dX1_homeward_32 (by decide) (fun c19 => ?_) (fun c19 => ?_)
      · skip
        refine lv_iload_n E.1 E.2.1 dX1_homeward_83 rfl (lv_at hl 2 rfl) ?_
        exact RET G ⟨rfl, (iv_mono b3 (by decide) (by decide))⟩ rfl dX1_homeward_84
      · skip
        have b20 : iv 0 7 y9 := lt_l (Int32.not_le.mp c19) b14 b18 (by decide)
        have b21 : iv 1 8 v16 := lt_r (Int32.not_le.mp c19) b14 b18 (by decide)
        refine lv_iload_n E.1 E.2.1 dX1_homeward_35 rfl (lv_at hl 1 rfl) ?_
        refine lv_bipush (v := 99) E.1 E.2.1 dX1_homeward_36 (by decide) ?_
        refine lv_icmp_eq (tgt := 83) E.1 E.2.1 dX1_homeward_38 (by decide) (fun c22 => ?_) (fun c22 => ?_)
        · skip
          have b23 : iv 99 99 r6 := iv_eq c22 (iv_lit (lo := 99) (hi := 99) 99 (by decide) (by decide))
          refine lv_iload_n E.1 E.2.1 dX1_homeward_83 rfl (lv_at hl 2 rfl) ?_
          exact RET G ⟨rfl, (iv_mono b3 (by decide) (by decide))⟩ rfl dX1_homeward_84
        · skip
          refine lv_aload_n E.1 E.2.1 dX1_homeward_41 rfl (lv_at hl 3 rfl) ?_
          refine t_get E G 1 4 (rfl : ro 324 = 1) (C := RX1) (T := TX1) (N := 6) rfl (by decide) (by decide) (by decide) mw_fl_1_31 (fvl_d rfl) dX1_homeward_42 ?_
          rw [eqq4.symm]
          refine t_get E G 8 4 (at_ro (i := 0) aqq4 (by decide) : ro qq4 = 8) (C := RX8) (T := TX8) (N := 10) rfl (by decide) (by decide) (by decide) mw_fl_1_108 (v := .ref (ad (qq4 + 1))) (fvl_o (n := 1) rfl) dX1_homeward_45 ?_
          refine lv_iload_n E.1 E.2.1 dX1_homeward_48 rfl (lv_at hl 2 rfl) ?_
          refine t_iald E G 24 (at_ro (i := 1) aqq4 (by decide) : ro (qq4 + 1) = 24) (by decide) (by decide) rfl (n := 8) rfl (iv_vp b3 (by decide) (by decide)) dX1_homeward_49 ?_
          refine lv_topi (fun v25 e26 => ?_)
          refine lv_iload E.1 E.2.1 dX1_homeward_50 (lv_at hl 0 rfl) ?_
          refine lv_ishr E.1 E.2.1 dX1_homeward_52 ?_
          refine lv_topi (fun v27 e28 => ?_)
          refine lv_iconst (v := 1) E.1 E.2.1 dX1_homeward_53 (by decide) ?_
          refine lv_iand E.1 E.2.1 dX1_homeward_54 ?_
          refine lv_topi (fun v29 e30 => ?_)
          have b31 : iv 0 1 v29 := by rw [e30]; exact iv_and (iv_lit (lo := 1) (hi := 1) 1 (by decide) (by decide)) (by decide)
          refine lv_if_eq (tgt := 77) E.1 E.2.1 dX1_homeward_55 (by decide) (fun c32 => ?_) (fun c32 => ?_)
          · skip
            have b33 : iv 0 0 v29 := iv_eq c32 (iv_lit (lo := 0) (hi := 0) 0 (by decide) (by decide))
            obtain ⟨v34, e35⟩ : ∃ w : Int32, w = y9 + (1 : Int32) := ⟨_, rfl⟩
            refine lv_iinc (v := v34) (lv' := [(4, .int v34), (3, .int r6), (2, .int v1), (0, .ref (ad 324)), (1, .int x1)]) E.1 E.2.1 dX1_homeward_77 hl (k := 0) rfl (by rw [e35]; rfl) (by decide) rfl (fun ls hl => ?_)
            have b36 : iv 1 8 v34 := by rw [e35]; exact iv_add b20 (iv_lit (lo := 1) (hi := 1) 1 (by decide) (by decide)) (by decide) (by decide) (by decide) (by decide)
            have t37 : v34.toInt = y9.toInt + 1 := by rw [e35]; exact ti_addc 1 (by decide) b20 (by decide) (by decide)
            refine lv_goto (tgt := 23) E.1 E.2.1 dX1_homeward_80 (by decide) ?_
            exact ih23 v34 H locs ls G (iv_mono b36 (by decide) (by decide)) (by have := t37; have := m13; omega) (lv_sub hl [0, 1, 2, 3, 4] rfl)
          · skip
            have b38 : iv 1 1 v29 := ne_lo c32 b31 (by decide) (by decide)
            refine lv_aload_n E.1 E.2.1 dX1_homeward_58 rfl (lv_at hl 3 rfl) ?_
            refine t_get E G 1 4 (rfl : ro 324 = 1) (C := RX1) (T := TX1) (N := 6) rfl (by decide) (by decide) (by decide) mw_fl_1_31 (fvl_d rfl) dX1_homeward_59 ?_
            rw [eqq4.symm]
            refine lv_iload_n E.1 E.2.1 dX1_homeward_62 rfl (lv_at hl 4 rfl) ?_
            refine lv_iload E.1 E.2.1 dX1_homeward_63 (lv_at hl 0 rfl) ?_
            refine t_vi E G hl (t_waysHome l D K ad z o qq4 aqq4 x1 (iv_mono bx1 (by decide) (by decide)) y9 (iv_mono b20 (by decide) (by decide))) 8 (at_ro (i := 0) aqq4 (by decide) : ro qq4 = 8) (by decide) rfl rfl 2 rfl mw_code_X8_waysHome mw_ini_8 mw_ml_1_102 mw_inst_X8_waysHome mw_sel_X8_waysHome hd_X8_waysHome ⟨Nat.le_trans (by decide) hfr, Nat.le_trans (by decide) hlo⟩ rfl rfl rfl (Nat.le_of_ble_eq_true rfl) dX1_homeward_65 (fun r41 zz40 H locs hp42 G => ?_)
            have hz43 := hp42
            rw [hz43] at G
            refine lv_iload_n E.1 E.2.1 dX1_homeward_68 rfl (lv_at hl 1 rfl) ?_
            refine lv_iconst (v := 1) E.1 E.2.1 dX1_homeward_69 (by decide) ?_
            refine lv_isub E.1 E.2.1 dX1_homeward_70 ?_
            refine lv_topi (fun v44 e45 => ?_)
            refine lv_icmp_ne (tgt := 77) E.1 E.2.1 dX1_homeward_71 (by decide) (fun c46 => ?_) (fun c46 => ?_)
            · skip
              obtain ⟨v47, e48⟩ : ∃ w : Int32, w = y9 + (1 : Int32) := ⟨_, rfl⟩
              refine lv_iinc (v := v47) (lv' := [(4, .int v47), (3, .int r6), (2, .int v1), (0, .ref (ad 324)), (1, .int x1)]) E.1 E.2.1 dX1_homeward_77 hl (k := 0) rfl (by rw [e48]; rfl) (by decide) rfl (fun ls hl => ?_)
              have b49 : iv 1 8 v47 := by rw [e48]; exact iv_add b20 (iv_lit (lo := 1) (hi := 1) 1 (by decide) (by decide)) (by decide) (by decide) (by decide) (by decide)
              have t50 : v47.toInt = y9.toInt + 1 := by rw [e48]; exact ti_addc 1 (by decide) b20 (by decide) (by decide)
              refine lv_goto (tgt := 23) E.1 E.2.1 dX1_homeward_80 (by decide) ?_
              exact ih23 v47 H locs ls G (iv_mono b49 (by decide) (by decide)) (by have := t50; have := m13; omega) (lv_sub hl [0, 1, 2, 3, 4] rfl)
            · skip
              refine lv_iload E.1 E.2.1 dX1_homeward_74 (lv_at hl 0 rfl) ?_
              exact RET G ⟨rfl, (iv_mono b20 (by decide) (by decide))⟩ rfl dX1_homeward_76
  exact LOOP23 9 0 H locs ls G (iv_mono (iv_lit (lo := 0) (hi := 0) 0 (by decide) (by decide)) (by decide) (by decide)) (by have := (iv_lit (lo := 0) (hi := 0) 0 (by decide) (by decide)).1; omega) (lv_sub hl [0, 1, 2, 3, 4] rfl)
set_option maxHeartbeats 4000000 in
set_option maxRecDepth 100000 in
theorem c_spring (l : Launch) (D : va_G) (K : Nat → ClassId) (ad : Nat → Nat) (z : TS) (o : Ok z) (x1 : Int32) (bx1 : iv 0 5 x1) (x2 : Int32) (bx2 : iv 0 4 x2) : cV l yX1_spring cX1_spring 3 ({ frames := 1, cells := 0, slots := 0, locals := 21 }) D K ad z [.ref (ad 324), .int x1, .int x2] (fun u => Ok u ∧ KC z u) := by
  refine t_enterV (by decide) (Nat.le_of_ble_eq_true rfl) rfl rfl ?_
  intro p e s m args below meth c A R Q H locs ls E hfr hlo RET G hl
  have E : mE p s m meth c cX1_spring args 3 RX1 D K A := E
  have hl : lv_has ls 3 [(0, .ref (ad 324)), (1, .int x1), (2, .int x2)] := hl
  refine lv_aload_n E.1 E.2.1 dX1_spring_0 rfl (lv_at hl 0 rfl) ?_
  refine t_get E G 1 0 (rfl : ro 324 = 1) (C := RX1) (T := TX1) (N := 6) rfl (by decide) (by decide) (by decide) mw_fl_1_12 (v := .ref (ad 325)) (fvl_o (n := 1) rfl) dX1_spring_1 ?_
  refine lv_dup E.1 E.2.1 dX1_spring_4 rfl ?_
  refine t_get E G 6 6 (rfl : ro 325 = 6) (C := RX6) (T := TX6) (N := 8) rfl (by decide) (by decide) (by decide) mw_fl_1_84 (fvl_i rfl) dX1_spring_5 ?_
  refine lv_topi (fun v1 e2 => ?_)
  refine lv_iconst (v := 1) E.1 E.2.1 dX1_spring_8 (by decide) ?_
  refine lv_iload_n E.1 E.2.1 dX1_spring_9 rfl (lv_at hl 1 rfl) ?_
  refine lv_ishl E.1 E.2.1 dX1_spring_10 ?_
  refine lv_topi (fun v3 e4 => ?_)
  have b5 : iv 1 256 v3 := by rw [e4]; exact iv_shl8 (iv_mono bx1 (by decide) (by decide))
  refine lv_iconst (v := (-1)) E.1 E.2.1 dX1_spring_11 (by decide) ?_
  refine lv_ixor E.1 E.2.1 dX1_spring_12 ?_
  refine lv_topi (fun v6 e7 => ?_)
  refine lv_iand E.1 E.2.1 dX1_spring_13 ?_
  refine lv_topi (fun v8 e9 => ?_)
  refine t_puti E G 6 6 (rfl : ro 325 = 6) (C := RX6) (T := TX6) (N := 8) rfl (by decide) (by decide) (by decide) rfl rfl mw_fl_1_84 rfl dX1_spring_14 (fun H locs G => ?_)
  obtain ⟨zz10, G, oo11, kk12, h13⟩ : ∃ u : TS, mG D A s H locs (wd K ad u) ∧ Ok u ∧ KC z u ∧ tI u 325 6 = v8 := ⟨_, G, ok_i o 6 (rfl : ro 325 = 6) (iv_mono (iv_full v8) (by decide) (by decide)) (by decide), KC.tr KC.rf (KC_i 6 (rfl : ro 325 = 6) (by decide)), sI_self⟩
  refine lv_aload_n E.1 E.2.1 dX1_spring_17 rfl (lv_at hl 0 rfl) ?_
  refine t_get E G 1 0 (rfl : ro 324 = 1) (C := RX1) (T := TX1) (N := 6) rfl (by decide) (by decide) (by decide) mw_fl_1_12 (v := .ref (ad 325)) (fvl_o (n := 1) rfl) dX1_spring_18 ?_
  refine t_get E G 6 3 (rfl : ro 325 = 6) (C := RX6) (T := TX6) (N := 8) rfl (by decide) (by decide) (by decide) mw_fl_1_87 (v := .ref (ad 329)) (fvl_o (n := 4) rfl) dX1_spring_21 ?_
  refine lv_iload_n E.1 E.2.1 dX1_spring_24 rfl (lv_at hl 2 rfl) ?_
  refine lv_sipush (v := 999) E.1 E.2.1 dX1_spring_25 (by decide) ?_
  refine lv_aload_n E.1 E.2.1 dX1_spring_28 rfl (lv_at hl 0 rfl) ?_
  refine t_get E G 1 0 (rfl : ro 324 = 1) (C := RX1) (T := TX1) (N := 6) rfl (by decide) (by decide) (by decide) mw_fl_1_12 (v := .ref (ad 325)) (fvl_o (n := 1) rfl) dX1_spring_29 ?_
  refine t_get E G 6 3 (rfl : ro 325 = 6) (C := RX6) (T := TX6) (N := 8) rfl (by decide) (by decide) (by decide) mw_fl_1_87 (v := .ref (ad 329)) (fvl_o (n := 4) rfl) dX1_spring_32 ?_
  refine lv_iload_n E.1 E.2.1 dX1_spring_35 rfl (lv_at hl 2 rfl) ?_
  refine t_iald E G 22 (rfl : ro 329 = 22) (by decide) (by decide) rfl (n := 5) rfl (iv_vp bx2 (by decide) (by decide)) dX1_spring_36 ?_
  refine lv_topi (fun v14 e15 => ?_)
  refine lv_aload_n E.1 E.2.1 dX1_spring_37 rfl (lv_at hl 0 rfl) ?_
  refine t_get E G 1 4 (rfl : ro 324 = 1) (C := RX1) (T := TX1) (N := 6) rfl (by decide) (by decide) (by decide) mw_fl_1_31 (fvl_d rfl) dX1_spring_38 ?_
  obtain ⟨qq16, eqq16⟩ : ∃ q : Nat, q = tP zz10 324 4 := ⟨_, rfl⟩
  have aqq16 : at_ 8 qq16 = true := by rw [eqq16]; exact oo11.p 1 4 (rfl : ro 324 = 1) (by decide)
  rw [← eqq16]
  refine t_get E G 8 6 (at_ro (i := 0) aqq16 (by decide) : ro qq16 = 8) (C := RX8) (T := TX8) (N := 10) rfl (by decide) (by decide) (by decide) mw_fl_1_90 (v := .ref (ad (qq16 + 3))) (fvl_o (n := 3) rfl) dX1_spring_41 ?_
  refine lv_iload_n E.1 E.2.1 dX1_spring_44 rfl (lv_at hl 1 rfl) ?_
  refine t_iald E G 23 (at_ro (i := 3) aqq16 (by decide) : ro (qq16 + 3) = 23) (by decide) (by decide) rfl (n := 6) rfl (iv_vp bx1 (by decide) (by decide)) dX1_spring_45 ?_
  refine lv_topi (fun v17 e18 => ?_)
  refine lv_iadd E.1 E.2.1 dX1_spring_46 ?_
  refine lv_topi (fun v19 e20 => ?_)
  refine va_mmin E.1 E.2.1 (E.2.2.1.trans hl.1.symm) E.2.2.2.1 (E.2.2.2.2.1 _ mw_ml_1_93) (E.2.2.2.2.1 _ mw_stat_min) (E.2.2.2.2.1 _ mw_ini_Math) (E.2.2.2.2.1 _ mw_code_min) (Nat.le_trans (by decide) hfr) (Nat.le_trans (Nat.le_of_ble_eq_true rfl) hlo) (Nat.zero_le _) (Nat.zero_le _) dX1_spring_47 ?_
  refine lv_topi (fun v21 e22 => ?_)
  have b23 : iv (-2147483648) 999 v21 := by rw [e22]; exact iv_min (iv_lit (lo := 999) (hi := 999) 999 (by decide) (by decide)) (iv_full v19) (by decide) (by decide)
  refine t_iast E G 22 (rfl : ro 329 = 22) (by decide) (by decide) rfl (n := 5) rfl (iv_vp bx2 (by decide) (by decide)) dX1_spring_50 (fun H locs G => ?_)
  obtain ⟨zz24, G, oo25, kk26, h27, h28⟩ : ∃ u : TS, mG D A s H locs (wd K ad u) ∧ Ok u ∧ KC z u ∧ tI u 325 6 = v8 ∧ tP u 324 4 = qq16 := ⟨_, G, ok_uc oo11 22 (rfl : ro 329 = 22) (by decide) (iv_mono b23 (by decide) (by decide)) (by decide), KC.tr kk12 (KC_r 22 (rfl : ro 329 = 22) (by decide)), h13, eqq16.symm⟩
  refine lv_aload_n E.1 E.2.1 dX1_spring_51 rfl (lv_at hl 0 rfl) ?_
  refine t_get E G 1 0 (rfl : ro 324 = 1) (C := RX1) (T := TX1) (N := 6) rfl (by decide) (by decide) (by decide) mw_fl_1_12 (v := .ref (ad 325)) (fvl_o (n := 1) rfl) dX1_spring_52 ?_
  refine t_get E G 6 2 (rfl : ro 325 = 6) (C := RX6) (T := TX6) (N := 8) rfl (by decide) (by decide) (by decide) mw_fl_1_99 (v := .ref (ad 328)) (fvl_o (n := 3) rfl) dX1_spring_55 ?_
  refine lv_iload_n E.1 E.2.1 dX1_spring_58 rfl (lv_at hl 2 rfl) ?_
  refine lv_bipush (v := 9) E.1 E.2.1 dX1_spring_59 (by decide) ?_
  refine lv_aload_n E.1 E.2.1 dX1_spring_61 rfl (lv_at hl 0 rfl) ?_
  refine t_get E G 1 0 (rfl : ro 324 = 1) (C := RX1) (T := TX1) (N := 6) rfl (by decide) (by decide) (by decide) mw_fl_1_12 (v := .ref (ad 325)) (fvl_o (n := 1) rfl) dX1_spring_62 ?_
  refine t_get E G 6 2 (rfl : ro 325 = 6) (C := RX6) (T := TX6) (N := 8) rfl (by decide) (by decide) (by decide) mw_fl_1_99 (v := .ref (ad 328)) (fvl_o (n := 3) rfl) dX1_spring_65 ?_
  refine lv_iload_n E.1 E.2.1 dX1_spring_68 rfl (lv_at hl 2 rfl) ?_
  refine t_iald E G 22 (rfl : ro 328 = 22) (by decide) (by decide) rfl (n := 5) rfl (iv_vp bx2 (by decide) (by decide)) dX1_spring_69 ?_
  refine lv_topi (fun v29 e30 => ?_)
  refine lv_iconst (v := 1) E.1 E.2.1 dX1_spring_70 (by decide) ?_
  refine lv_iadd E.1 E.2.1 dX1_spring_71 ?_
  refine lv_topi (fun v31 e32 => ?_)
  refine va_mmin E.1 E.2.1 (E.2.2.1.trans hl.1.symm) E.2.2.2.1 (E.2.2.2.2.1 _ mw_ml_1_93) (E.2.2.2.2.1 _ mw_stat_min) (E.2.2.2.2.1 _ mw_ini_Math) (E.2.2.2.2.1 _ mw_code_min) (Nat.le_trans (by decide) hfr) (Nat.le_trans (Nat.le_of_ble_eq_true rfl) hlo) (Nat.zero_le _) (Nat.zero_le _) dX1_spring_72 ?_
  refine lv_topi (fun v33 e34 => ?_)
  have b35 : iv (-2147483648) 9 v33 := by rw [e34]; exact iv_min (iv_lit (lo := 9) (hi := 9) 9 (by decide) (by decide)) (iv_full v31) (by decide) (by decide)
  refine t_iast E G 22 (rfl : ro 328 = 22) (by decide) (by decide) rfl (n := 5) rfl (iv_vp bx2 (by decide) (by decide)) dX1_spring_75 (fun H locs G => ?_)
  obtain ⟨zz36, G, oo37, kk38, h39, h40⟩ : ∃ u : TS, mG D A s H locs (wd K ad u) ∧ Ok u ∧ KC z u ∧ tI u 325 6 = v8 ∧ tP u 324 4 = qq16 := ⟨_, G, ok_uc oo25 22 (rfl : ro 328 = 22) (by decide) (iv_mono b35 (by decide) (by decide)) (by decide), KC.tr kk26 (KC_r 22 (rfl : ro 328 = 22) (by decide)), h27, h28⟩
  exact RET G ⟨oo37, kk38⟩ dX1_spring_76
set_option maxHeartbeats 4000000 in
set_option maxRecDepth 100000 in
theorem c_gainOf (l : Launch) (D : va_G) (K : Nat → ClassId) (ad : Nat → Nat) (z : TS) (o : Ok z) (x1 : Int32) (bx1 : iv 0 5 x1) : cI l yX1_gainOf cX1_gainOf 3 .int ({ frames := 1, cells := 0, slots := 0, locals := 21 }) D K ad z [.ref (ad 324), .int x1] (fun r u => u = z) := by
  refine t_enterI (by decide) (Nat.le_of_ble_eq_true rfl) rfl rfl ?_
  intro p e s m args below meth c A R Q H locs ls E hfr hlo RET G hl
  have E : mE p s m meth c cX1_gainOf args 3 RX1 D K A := E
  have hl : lv_has ls 3 [(0, .ref (ad 324)), (1, .int x1)] := hl
  refine lv_aload_n E.1 E.2.1 dX1_gainOf_0 rfl (lv_at hl 0 rfl) ?_
  refine t_get E G 1 0 (rfl : ro 324 = 1) (C := RX1) (T := TX1) (N := 6) rfl (by decide) (by decide) (by decide) mw_fl_1_12 (v := .ref (ad 325)) (fvl_o (n := 1) rfl) dX1_gainOf_1 ?_
  refine lv_iload_n E.1 E.2.1 dX1_gainOf_4 rfl (lv_at hl 1 rfl) ?_
  refine t_vi E G hl (s_isSet l D K ad z o 325 (by decide : at_ 6 325 = true) x1) 6 (rfl : ro 325 = 6) (by decide) rfl rfl 1 rfl mw_code_X6_isSet mw_ini_6 mw_ml_1_131 mw_inst_X6_isSet mw_sel_X6_isSet hd_X6_isSet ⟨Nat.le_trans (by decide) hfr, Nat.le_trans (by decide) hlo⟩ rfl rfl rfl (Nat.le_of_ble_eq_true rfl) dX1_gainOf_5 (fun r2 zz1 H locs hp3 G => ?_)
  obtain ⟨hz5, b4⟩ := hp3
  rw [hz5] at G
  refine lv_if_ne (tgt := 21) E.1 E.2.1 dX1_gainOf_8 (by decide) (fun c6 => ?_) (fun c6 => ?_)
  · skip
    have b7 : iv 1 1 r2 := ne_lo c6 b4 (by decide) (by decide)
    refine lv_iconst (v := 0) E.1 E.2.1 dX1_gainOf_21 (by decide) ?_
    refine lv_istore_n (lv' := [(2, .int 0), (0, .ref (ad 324)), (1, .int x1)]) E.1 E.2.1 dX1_gainOf_22 rfl hl (by decide) rfl (fun ls hl => ?_)
    have LOOP23 : ∀ n : Nat, ∀ (y8 : Int32) (H : Heap) (locs : List Loc) (ls : Array Slot), mG D A s H locs (wd K ad z) → iv 0 5 y8 → 5 < y8.toInt + (n : Int) → lv_has ls 3 [(2, .int y8), (0, .ref (ad 324)), (1, .int x1)] → W p l e R s m args below meth c H locs 0 0 Q (F0 m 23 ls []) := by
      intro n
      induction n with
      | zero =>
        intro y8 H locs ls G b13 m12 hl
        exact absurd m12 (by have := b13.1; have := b13.2; omega)
      | succ n ih23 =>
        intro y8 H locs ls G b13 m12 hl
        refine lv_iload_n E.1 E.2.1 dX1_gainOf_23 rfl (lv_at hl 0 rfl) ?_
        refine lv_aload_n E.1 E.2.1 dX1_gainOf_24 rfl (lv_at hl 1 rfl) ?_
        refine t_get E G 1 4 (rfl : ro 324 = 1) (C := RX1) (T := TX1) (N := 6) rfl (by decide) (by decide) (by decide) mw_fl_1_31 (fvl_d rfl) dX1_gainOf_25 ?_
        obtain ⟨qq14, eqq14⟩ : ∃ q : Nat, q = tP z 324 4 := ⟨_, rfl⟩
        have aqq14 : at_ 8 qq14 = true := by rw [eqq14]; exact o.p 1 4 (rfl : ro 324 = 1) (by decide)
        rw [← eqq14]
        refine t_get E G 8 3 (at_ro (i := 0) aqq14 (by decide) : ro qq14 = 8) (C := RX8) (T := TX8) (N := 10) rfl (by decide) (by decide) (by decide) mw_fl_1_50 (fvl_i rfl) dX1_gainOf_28 ?_
        refine lv_topi (fun v15 e16 => ?_)
        have b17 : iv 0 5 v15 := by rw [e16]; exact o.i 8 3 (at_ro (i := 0) aqq14 (by decide) : ro qq14 = 8)
        refine lv_icmp_ge (tgt := 63) E.1 E.2.1 dX1_gainOf_31 (by decide) (fun c18 => ?_) (fun c18 => ?_)
        · skip
          refine lv_iconst (v := 0) E.1 E.2.1 dX1_gainOf_63 (by decide) ?_
          exact RET G rfl rfl dX1_gainOf_64
        · skip
          have b19 : iv 0 4 y8 := lt_l (Int32.not_le.mp c18) b13 b17 (by decide)
          have b20 : iv 1 5 v15 := lt_r (Int32.not_le.mp c18) b13 b17 (by decide)
          refine lv_aload_n E.1 E.2.1 dX1_gainOf_34 rfl (lv_at hl 1 rfl) ?_
          refine t_get E G 1 0 (rfl : ro 324 = 1) (C := RX1) (T := TX1) (N := 6) rfl (by decide) (by decide) (by decide) mw_fl_1_12 (v := .ref (ad 325)) (fvl_o (n := 1) rfl) dX1_gainOf_35 ?_
          refine t_get E G 6 0 (rfl : ro 325 = 6) (C := RX6) (T := TX6) (N := 8) rfl (by decide) (by decide) (by decide) mw_fl_1_64 (v := .ref (ad 326)) (fvl_o (n := 1) rfl) dX1_gainOf_38 ?_
          refine lv_iload_n E.1 E.2.1 dX1_gainOf_41 rfl (lv_at hl 0 rfl) ?_
          refine t_iald E G 21 (rfl : ro 326 = 21) (by decide) (by decide) rfl (n := 5) rfl (iv_vp b19 (by decide) (by decide)) dX1_gainOf_42 ?_
          refine lv_topi (fun v21 e22 => ?_)
          have b23 : iv 0 7 v21 := by rw [e22]; exact o.ac 21 (rfl : ro 326 = 21) (by decide) _
          refine lv_aload_n E.1 E.2.1 dX1_gainOf_43 rfl (lv_at hl 1 rfl) ?_
          refine t_get E G 1 0 (rfl : ro 324 = 1) (C := RX1) (T := TX1) (N := 6) rfl (by decide) (by decide) (by decide) mw_fl_1_12 (v := .ref (ad 325)) (fvl_o (n := 1) rfl) dX1_gainOf_44 ?_
          refine t_get E G 6 4 (rfl : ro 325 = 6) (C := RX6) (T := TX6) (N := 8) rfl (by decide) (by decide) (by decide) mw_fl_1_128 (v := .ref (ad 330)) (fvl_o (n := 5) rfl) dX1_gainOf_47 ?_
          refine lv_iload_n E.1 E.2.1 dX1_gainOf_50 rfl (lv_at hl 2 rfl) ?_
          refine t_iald E G 23 (rfl : ro 330 = 23) (by decide) (by decide) rfl (n := 6) rfl (iv_vp bx1 (by decide) (by decide)) dX1_gainOf_51 ?_
          refine lv_topi (fun v24 e25 => ?_)
          refine lv_icmp_ne (tgt := 57) E.1 E.2.1 dX1_gainOf_52 (by decide) (fun c26 => ?_) (fun c26 => ?_)
          · skip
            obtain ⟨v27, e28⟩ : ∃ w : Int32, w = y8 + (1 : Int32) := ⟨_, rfl⟩
            refine lv_iinc (v := v27) (lv' := [(2, .int v27), (0, .ref (ad 324)), (1, .int x1)]) E.1 E.2.1 dX1_gainOf_57 hl (k := 0) rfl (by rw [e28]; rfl) (by decide) rfl (fun ls hl => ?_)
            have b29 : iv 1 5 v27 := by rw [e28]; exact iv_add b19 (iv_lit (lo := 1) (hi := 1) 1 (by decide) (by decide)) (by decide) (by decide) (by decide) (by decide)
            have t30 : v27.toInt = y8.toInt + 1 := by rw [e28]; exact ti_addc 1 (by decide) b19 (by decide) (by decide)
            refine lv_goto (tgt := 23) E.1 E.2.1 dX1_gainOf_60 (by decide) ?_
            exact ih23 v27 H locs ls G (iv_mono b29 (by decide) (by decide)) (by have := t30; have := m12; omega) (lv_sub hl [0, 1, 2] rfl)
          · skip
            refine lv_iconst (v := 1) E.1 E.2.1 dX1_gainOf_55 (by decide) ?_
            exact RET G rfl rfl dX1_gainOf_56
    exact LOOP23 6 0 H locs ls G (iv_mono (iv_lit (lo := 0) (hi := 0) 0 (by decide) (by decide)) (by decide) (by decide)) (by have := (iv_lit (lo := 0) (hi := 0) 0 (by decide) (by decide)).1; omega) (lv_sub hl [0, 1, 2] rfl)
  · skip
    have b31 : iv 0 0 r2 := iv_eq c6 (iv_lit (lo := 0) (hi := 0) 0 (by decide) (by decide))
    refine lv_aload_n E.1 E.2.1 dX1_gainOf_11 rfl (lv_at hl 0 rfl) ?_
    refine t_get E G 1 4 (rfl : ro 324 = 1) (C := RX1) (T := TX1) (N := 6) rfl (by decide) (by decide) (by decide) mw_fl_1_31 (fvl_d rfl) dX1_gainOf_12 ?_
    obtain ⟨qq32, eqq32⟩ : ∃ q : Nat, q = tP z 324 4 := ⟨_, rfl⟩
    have aqq32 : at_ 8 qq32 = true := by rw [eqq32]; exact o.p 1 4 (rfl : ro 324 = 1) (by decide)
    rw [← eqq32]
    refine t_get E G 8 6 (at_ro (i := 0) aqq32 (by decide) : ro qq32 = 8) (C := RX8) (T := TX8) (N := 10) rfl (by decide) (by decide) (by decide) mw_fl_1_90 (v := .ref (ad (qq32 + 3))) (fvl_o (n := 3) rfl) dX1_gainOf_15 ?_
    refine lv_iload_n E.1 E.2.1 dX1_gainOf_18 rfl (lv_at hl 1 rfl) ?_
    refine t_iald E G 23 (at_ro (i := 3) aqq32 (by decide) : ro (qq32 + 3) = 23) (by decide) (by decide) rfl (n := 6) rfl (iv_vp bx1 (by decide) (by decide)) dX1_gainOf_19 ?_
    refine lv_topi (fun v33 e34 => ?_)
    exact RET G rfl rfl dX1_gainOf_20
