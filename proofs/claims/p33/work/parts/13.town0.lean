theorem mw_fl_8_15 : (Cond.fieldLink RX8 15 "LureTown$Town" "wayCount" "I" : Cond) ∈ cw := cw_of (List.mem_append_right _ (List.mem_append_left _ (List.mem_of_getElem? (i := 138) (by decide +kernel)))) (by decide +kernel)
theorem mw_fl_8_18 : (Cond.fieldLink RX8 18 "LureTown$Town" "lureCount" "I" : Cond) ∈ cw := cw_of (List.mem_append_right _ (List.mem_append_left _ (List.mem_of_getElem? (i := 140) (by decide +kernel)))) (by decide +kernel)
theorem mw_fl_8_21 : (Cond.fieldLink RX8 21 "LureTown$Town" "walkerCount" "I" : Cond) ∈ cw := cw_of (List.mem_append_right _ (List.mem_append_left _ (List.mem_of_getElem? (i := 144) (by decide +kernel)))) (by decide +kernel)
theorem mw_fl_8_24 : (Cond.fieldLink RX8 24 "LureTown$Town" "joined" "[I" : Cond) ∈ cw := cw_of (List.mem_append_right _ (List.mem_append_left _ (List.mem_of_getElem? (i := 148) (by decide +kernel)))) (by decide +kernel)
theorem mw_fl_8_28 : (Cond.fieldLink RX8 28 "LureTown$Town" "lureGuile" "[I" : Cond) ∈ cw := cw_of (List.mem_append_right _ (List.mem_append_left _ (List.mem_of_getElem? (i := 151) (by decide +kernel)))) (by decide +kernel)
theorem mw_fl_8_31 : (Cond.fieldLink RX8 31 "LureTown$Town" "lureCharge" "[I" : Cond) ∈ cw := cw_of (List.mem_append_right _ (List.mem_append_left _ (List.mem_of_getElem? (i := 153) (by decide +kernel)))) (by decide +kernel)
theorem mw_fl_8_34 : (Cond.fieldLink RX8 34 "LureTown$Town" "walkerHome" "[I" : Cond) ∈ cw := cw_of (List.mem_append_right _ (List.mem_append_left _ (List.mem_of_getElem? (i := 156) (by decide +kernel)))) (by decide +kernel)
theorem mw_fl_8_40 : (Cond.fieldLink RX8 40 "LureTown$Town" "told" "LLureTown$State;" : Cond) ∈ cw := cw_of (List.mem_append_right _ (List.mem_append_left _ (List.mem_of_getElem? (i := 158) (by decide +kernel)))) (by decide +kernel)
theorem mw_fl_8_44 : (Cond.fieldLink RX8 44 "LureTown$Town" "apart" "[I" : Cond) ∈ cw := cw_of (List.mem_append_right _ (List.mem_append_left _ (List.mem_of_getElem? (i := 160) (by decide +kernel)))) (by decide +kernel)
theorem mw_fl_8_47 : (Cond.fieldLink RX8 47 "LureTown$State" "setBits" "I" : Cond) ∈ cw := cw_of (List.mem_append_right _ (List.mem_append_left _ (List.mem_of_getElem? (i := 110) (by decide +kernel)))) (by decide +kernel)
theorem mw_fl_8_63 : (Cond.fieldLink RX8 63 "LureTown$State" "lureKind" "[I" : Cond) ∈ cw := cw_of (List.mem_append_right _ (List.mem_append_left _ (List.mem_of_getElem? (i := 107) (by decide +kernel)))) (by decide +kernel)
theorem mw_fl_8_73 : (Cond.fieldLink RX8 73 "LureTown$State" "walkerHeart" "[I" : Cond) ∈ cw := cw_of (List.mem_append_right _ (List.mem_append_left _ (List.mem_of_getElem? (i := 92) (by decide +kernel)))) (by decide +kernel)
theorem mw_fl_8_76 : (Cond.fieldLink RX8 76 "LureTown$State" "walkerWary" "[I" : Cond) ∈ cw := cw_of (List.mem_append_right _ (List.mem_append_left _ (List.mem_of_getElem? (i := 97) (by decide +kernel)))) (by decide +kernel)
theorem mw_fl_8_9 : (Cond.fieldLink RX8 9 "LureTown$Town" "cornerCount" "I" : Cond) ∈ cw := cw_of (List.mem_append_right _ (List.mem_append_left _ (List.mem_of_getElem? (i := 134) (by decide +kernel)))) (by decide +kernel)
theorem mw_ml_8_50 : (Cond.methodLink RX8 50 arraycopyName : Cond) ∈ cw := cw_of (List.mem_append_right _ (List.mem_append_right _ (List.mem_append_right _ (List.mem_append_left _ (List.mem_of_getElem? (i := 164) (by decide +kernel)))))) (by decide +kernel)
theorem mw_ml_8_56 : (Cond.methodLink RX8 56 yX6_copyFrom : Cond) ∈ cw := cw_of (List.mem_append_right _ (List.mem_append_right _ (List.mem_append_right _ (List.mem_append_left _ (List.mem_of_getElem? (i := 167) (by decide +kernel)))))) (by decide +kernel)
theorem dX8_clear_0 : decode cX8_clear 0 = .ok (.aload_n 0, 1) := by decide +kernel
theorem dX8_clear_1 : decode cX8_clear 1 = .ok (.iconst 0, 1) := by decide +kernel
theorem dX8_clear_2 : decode cX8_clear 2 = .ok (.putfield 9, 3) := by decide +kernel
theorem dX8_clear_5 : decode cX8_clear 5 = .ok (.aload_n 0, 1) := by decide +kernel
theorem dX8_clear_6 : decode cX8_clear 6 = .ok (.iconst 0, 1) := by decide +kernel
theorem dX8_clear_7 : decode cX8_clear 7 = .ok (.putfield 15, 3) := by decide +kernel
theorem dX8_clear_10 : decode cX8_clear 10 = .ok (.aload_n 0, 1) := by decide +kernel
theorem dX8_clear_11 : decode cX8_clear 11 = .ok (.iconst 0, 1) := by decide +kernel
theorem dX8_clear_12 : decode cX8_clear 12 = .ok (.putfield 18, 3) := by decide +kernel
theorem dX8_clear_15 : decode cX8_clear 15 = .ok (.aload_n 0, 1) := by decide +kernel
theorem dX8_clear_16 : decode cX8_clear 16 = .ok (.iconst 0, 1) := by decide +kernel
theorem dX8_clear_17 : decode cX8_clear 17 = .ok (.putfield 21, 3) := by decide +kernel
theorem dX8_clear_20 : decode cX8_clear 20 = .ok (.aload_n 0, 1) := by decide +kernel
theorem dX8_clear_21 : decode cX8_clear 21 = .ok (.getfield 40, 3) := by decide +kernel
theorem dX8_clear_24 : decode cX8_clear 24 = .ok (.iconst 0, 1) := by decide +kernel
theorem dX8_clear_25 : decode cX8_clear 25 = .ok (.putfield 47, 3) := by decide +kernel
theorem dX8_clear_28 : decode cX8_clear 28 = .ok (.iconst 0, 1) := by decide +kernel
theorem dX8_clear_29 : decode cX8_clear 29 = .ok (.istore_n 1, 1) := by decide +kernel
theorem dX8_clear_30 : decode cX8_clear 30 = .ok (.iload_n 1, 1) := by decide +kernel
theorem dX8_clear_31 : decode cX8_clear 31 = .ok (.bipush 8, 2) := by decide +kernel
theorem dX8_clear_33 : decode cX8_clear 33 = .ok (.if_icmp .ge 16, 3) := by decide +kernel
theorem dX8_clear_36 : decode cX8_clear 36 = .ok (.aload_n 0, 1) := by decide +kernel
theorem dX8_clear_37 : decode cX8_clear 37 = .ok (.getfield 24, 3) := by decide +kernel
theorem dX8_clear_40 : decode cX8_clear 40 = .ok (.iload_n 1, 1) := by decide +kernel
theorem dX8_clear_41 : decode cX8_clear 41 = .ok (.iconst 0, 1) := by decide +kernel
theorem dX8_clear_42 : decode cX8_clear 42 = .ok (.iastore, 1) := by decide +kernel
theorem dX8_clear_43 : decode cX8_clear 43 = .ok (.iinc 1 1, 3) := by decide +kernel
theorem dX8_clear_46 : decode cX8_clear 46 = .ok (.goto (-16), 3) := by decide +kernel
theorem dX8_clear_49 : decode cX8_clear 49 = .ok (.return_, 1) := by decide +kernel
theorem dX8_copyFrom_0 : decode cX8_copyFrom 0 = .ok (.aload_n 0, 1) := by decide +kernel
theorem dX8_copyFrom_1 : decode cX8_copyFrom 1 = .ok (.aload_n 1, 1) := by decide +kernel
theorem dX8_copyFrom_2 : decode cX8_copyFrom 2 = .ok (.getfield 9, 3) := by decide +kernel
theorem dX8_copyFrom_5 : decode cX8_copyFrom 5 = .ok (.putfield 9, 3) := by decide +kernel
theorem dX8_copyFrom_8 : decode cX8_copyFrom 8 = .ok (.aload_n 0, 1) := by decide +kernel
theorem dX8_copyFrom_9 : decode cX8_copyFrom 9 = .ok (.aload_n 1, 1) := by decide +kernel
theorem dX8_copyFrom_10 : decode cX8_copyFrom 10 = .ok (.getfield 15, 3) := by decide +kernel
theorem dX8_copyFrom_13 : decode cX8_copyFrom 13 = .ok (.putfield 15, 3) := by decide +kernel
theorem dX8_copyFrom_16 : decode cX8_copyFrom 16 = .ok (.aload_n 0, 1) := by decide +kernel
theorem dX8_copyFrom_17 : decode cX8_copyFrom 17 = .ok (.aload_n 1, 1) := by decide +kernel
theorem dX8_copyFrom_18 : decode cX8_copyFrom 18 = .ok (.getfield 18, 3) := by decide +kernel
theorem dX8_copyFrom_21 : decode cX8_copyFrom 21 = .ok (.putfield 18, 3) := by decide +kernel
theorem dX8_copyFrom_24 : decode cX8_copyFrom 24 = .ok (.aload_n 0, 1) := by decide +kernel
theorem dX8_copyFrom_25 : decode cX8_copyFrom 25 = .ok (.aload_n 1, 1) := by decide +kernel
theorem dX8_copyFrom_26 : decode cX8_copyFrom 26 = .ok (.getfield 21, 3) := by decide +kernel
theorem dX8_copyFrom_29 : decode cX8_copyFrom 29 = .ok (.putfield 21, 3) := by decide +kernel
theorem dX8_copyFrom_32 : decode cX8_copyFrom 32 = .ok (.aload_n 1, 1) := by decide +kernel
theorem dX8_copyFrom_33 : decode cX8_copyFrom 33 = .ok (.getfield 24, 3) := by decide +kernel
theorem dX8_copyFrom_36 : decode cX8_copyFrom 36 = .ok (.iconst 0, 1) := by decide +kernel
theorem dX8_copyFrom_37 : decode cX8_copyFrom 37 = .ok (.aload_n 0, 1) := by decide +kernel
theorem dX8_copyFrom_38 : decode cX8_copyFrom 38 = .ok (.getfield 24, 3) := by decide +kernel
theorem dX8_copyFrom_41 : decode cX8_copyFrom 41 = .ok (.iconst 0, 1) := by decide +kernel
theorem dX8_copyFrom_42 : decode cX8_copyFrom 42 = .ok (.bipush 8, 2) := by decide +kernel
theorem dX8_copyFrom_44 : decode cX8_copyFrom 44 = .ok (.invokestatic 50, 3) := by decide +kernel
theorem dX8_copyFrom_47 : decode cX8_copyFrom 47 = .ok (.aload_n 1, 1) := by decide +kernel
theorem dX8_copyFrom_48 : decode cX8_copyFrom 48 = .ok (.getfield 28, 3) := by decide +kernel
theorem dX8_copyFrom_51 : decode cX8_copyFrom 51 = .ok (.iconst 0, 1) := by decide +kernel
theorem dX8_copyFrom_52 : decode cX8_copyFrom 52 = .ok (.aload_n 0, 1) := by decide +kernel
theorem dX8_copyFrom_53 : decode cX8_copyFrom 53 = .ok (.getfield 28, 3) := by decide +kernel
theorem dX8_copyFrom_56 : decode cX8_copyFrom 56 = .ok (.iconst 0, 1) := by decide +kernel
theorem dX8_copyFrom_57 : decode cX8_copyFrom 57 = .ok (.bipush 6, 2) := by decide +kernel
theorem dX8_copyFrom_59 : decode cX8_copyFrom 59 = .ok (.invokestatic 50, 3) := by decide +kernel
theorem dX8_copyFrom_62 : decode cX8_copyFrom 62 = .ok (.aload_n 1, 1) := by decide +kernel
theorem dX8_copyFrom_63 : decode cX8_copyFrom 63 = .ok (.getfield 31, 3) := by decide +kernel
theorem dX8_copyFrom_66 : decode cX8_copyFrom 66 = .ok (.iconst 0, 1) := by decide +kernel
theorem dX8_copyFrom_67 : decode cX8_copyFrom 67 = .ok (.aload_n 0, 1) := by decide +kernel
theorem dX8_copyFrom_68 : decode cX8_copyFrom 68 = .ok (.getfield 31, 3) := by decide +kernel
theorem dX8_copyFrom_71 : decode cX8_copyFrom 71 = .ok (.iconst 0, 1) := by decide +kernel
theorem dX8_copyFrom_72 : decode cX8_copyFrom 72 = .ok (.bipush 6, 2) := by decide +kernel
theorem dX8_copyFrom_74 : decode cX8_copyFrom 74 = .ok (.invokestatic 50, 3) := by decide +kernel
theorem dX8_copyFrom_77 : decode cX8_copyFrom 77 = .ok (.aload_n 1, 1) := by decide +kernel
theorem dX8_copyFrom_78 : decode cX8_copyFrom 78 = .ok (.getfield 34, 3) := by decide +kernel
theorem dX8_copyFrom_81 : decode cX8_copyFrom 81 = .ok (.iconst 0, 1) := by decide +kernel
theorem dX8_copyFrom_82 : decode cX8_copyFrom 82 = .ok (.aload_n 0, 1) := by decide +kernel
theorem dX8_copyFrom_83 : decode cX8_copyFrom 83 = .ok (.getfield 34, 3) := by decide +kernel
theorem dX8_copyFrom_86 : decode cX8_copyFrom 86 = .ok (.iconst 0, 1) := by decide +kernel
theorem dX8_copyFrom_87 : decode cX8_copyFrom 87 = .ok (.iconst 5, 1) := by decide +kernel
theorem dX8_copyFrom_88 : decode cX8_copyFrom 88 = .ok (.invokestatic 50, 3) := by decide +kernel
theorem dX8_copyFrom_91 : decode cX8_copyFrom 91 = .ok (.aload_n 1, 1) := by decide +kernel
theorem dX8_copyFrom_92 : decode cX8_copyFrom 92 = .ok (.getfield 44, 3) := by decide +kernel
theorem dX8_copyFrom_95 : decode cX8_copyFrom 95 = .ok (.iconst 0, 1) := by decide +kernel
theorem dX8_copyFrom_96 : decode cX8_copyFrom 96 = .ok (.aload_n 0, 1) := by decide +kernel
theorem dX8_copyFrom_97 : decode cX8_copyFrom 97 = .ok (.getfield 44, 3) := by decide +kernel
theorem dX8_copyFrom_100 : decode cX8_copyFrom 100 = .ok (.iconst 0, 1) := by decide +kernel
theorem dX8_copyFrom_101 : decode cX8_copyFrom 101 = .ok (.bipush 64, 2) := by decide +kernel
theorem dX8_copyFrom_103 : decode cX8_copyFrom 103 = .ok (.invokestatic 50, 3) := by decide +kernel
theorem dX8_copyFrom_106 : decode cX8_copyFrom 106 = .ok (.aload_n 0, 1) := by decide +kernel
theorem dX8_copyFrom_107 : decode cX8_copyFrom 107 = .ok (.getfield 40, 3) := by decide +kernel
theorem dX8_copyFrom_110 : decode cX8_copyFrom 110 = .ok (.aload_n 1, 1) := by decide +kernel
theorem dX8_copyFrom_111 : decode cX8_copyFrom 111 = .ok (.getfield 40, 3) := by decide +kernel
theorem dX8_copyFrom_114 : decode cX8_copyFrom 114 = .ok (.invokevirtual 56, 3) := by decide +kernel
theorem dX8_copyFrom_117 : decode cX8_copyFrom 117 = .ok (.return_, 1) := by decide +kernel
theorem dX8_join_0 : decode cX8_join 0 = .ok (.aload_n 0, 1) := by decide +kernel
theorem dX8_join_1 : decode cX8_join 1 = .ok (.getfield 24, 3) := by decide +kernel
theorem dX8_join_4 : decode cX8_join 4 = .ok (.iload_n 1, 1) := by decide +kernel
theorem dX8_join_5 : decode cX8_join 5 = .ok (.iaload, 1) := by decide +kernel
theorem dX8_join_6 : decode cX8_join 6 = .ok (.iload_n 2, 1) := by decide +kernel
theorem dX8_join_7 : decode cX8_join 7 = .ok (.ishr, 1) := by decide +kernel
theorem dX8_join_8 : decode cX8_join 8 = .ok (.iconst 1, 1) := by decide +kernel
theorem dX8_join_9 : decode cX8_join 9 = .ok (.iand, 1) := by decide +kernel
theorem dX8_join_10 : decode cX8_join 10 = .ok (.ifCond .ne 37, 3) := by decide +kernel
theorem dX8_join_13 : decode cX8_join 13 = .ok (.aload_n 0, 1) := by decide +kernel
theorem dX8_join_14 : decode cX8_join 14 = .ok (.getfield 24, 3) := by decide +kernel
theorem dX8_join_17 : decode cX8_join 17 = .ok (.iload_n 1, 1) := by decide +kernel
theorem dX8_join_18 : decode cX8_join 18 = .ok (.dup2, 1) := by decide +kernel
theorem dX8_join_19 : decode cX8_join 19 = .ok (.iaload, 1) := by decide +kernel
theorem dX8_join_20 : decode cX8_join 20 = .ok (.iconst 1, 1) := by decide +kernel
theorem dX8_join_21 : decode cX8_join 21 = .ok (.iload_n 2, 1) := by decide +kernel
theorem dX8_join_22 : decode cX8_join 22 = .ok (.ishl, 1) := by decide +kernel
theorem dX8_join_23 : decode cX8_join 23 = .ok (.ior, 1) := by decide +kernel
theorem dX8_join_24 : decode cX8_join 24 = .ok (.iastore, 1) := by decide +kernel
theorem dX8_join_25 : decode cX8_join 25 = .ok (.aload_n 0, 1) := by decide +kernel
theorem dX8_join_26 : decode cX8_join 26 = .ok (.getfield 24, 3) := by decide +kernel
theorem dX8_join_29 : decode cX8_join 29 = .ok (.iload_n 2, 1) := by decide +kernel
theorem dX8_join_30 : decode cX8_join 30 = .ok (.dup2, 1) := by decide +kernel
theorem dX8_join_31 : decode cX8_join 31 = .ok (.iaload, 1) := by decide +kernel
theorem dX8_join_32 : decode cX8_join 32 = .ok (.iconst 1, 1) := by decide +kernel
theorem dX8_join_33 : decode cX8_join 33 = .ok (.iload_n 1, 1) := by decide +kernel
theorem dX8_join_34 : decode cX8_join 34 = .ok (.ishl, 1) := by decide +kernel
theorem dX8_join_35 : decode cX8_join 35 = .ok (.ior, 1) := by decide +kernel
theorem dX8_join_36 : decode cX8_join 36 = .ok (.iastore, 1) := by decide +kernel
theorem dX8_join_37 : decode cX8_join 37 = .ok (.aload_n 0, 1) := by decide +kernel
theorem dX8_join_38 : decode cX8_join 38 = .ok (.dup, 1) := by decide +kernel
theorem dX8_join_39 : decode cX8_join 39 = .ok (.getfield 15, 3) := by decide +kernel
theorem dX8_join_42 : decode cX8_join 42 = .ok (.iconst 1, 1) := by decide +kernel
theorem dX8_join_43 : decode cX8_join 43 = .ok (.iadd, 1) := by decide +kernel
theorem dX8_join_44 : decode cX8_join 44 = .ok (.putfield 15, 3) := by decide +kernel
theorem dX8_join_47 : decode cX8_join 47 = .ok (.return_, 1) := by decide +kernel
theorem dX8_waysHome_0 : decode cX8_waysHome 0 = .ok (.aload_n 0, 1) := by decide +kernel
theorem dX8_waysHome_1 : decode cX8_waysHome 1 = .ok (.getfield 44, 3) := by decide +kernel
theorem dX8_waysHome_4 : decode cX8_waysHome 4 = .ok (.iload_n 2, 1) := by decide +kernel
theorem dX8_waysHome_5 : decode cX8_waysHome 5 = .ok (.bipush 8, 2) := by decide +kernel
theorem dX8_waysHome_7 : decode cX8_waysHome 7 = .ok (.imul, 1) := by decide +kernel
theorem dX8_waysHome_8 : decode cX8_waysHome 8 = .ok (.aload_n 0, 1) := by decide +kernel
theorem dX8_waysHome_9 : decode cX8_waysHome 9 = .ok (.getfield 34, 3) := by decide +kernel
theorem dX8_waysHome_12 : decode cX8_waysHome 12 = .ok (.iload_n 1, 1) := by decide +kernel
theorem dX8_waysHome_13 : decode cX8_waysHome 13 = .ok (.iaload, 1) := by decide +kernel
theorem dX8_waysHome_14 : decode cX8_waysHome 14 = .ok (.iadd, 1) := by decide +kernel
theorem dX8_waysHome_15 : decode cX8_waysHome 15 = .ok (.iaload, 1) := by decide +kernel
theorem dX8_waysHome_16 : decode cX8_waysHome 16 = .ok (.ireturn, 1) := by decide +kernel
theorem dX8_wouldHave_0 : decode cX8_wouldHave 0 = .ok (.aload_n 1, 1) := by decide +kernel
theorem dX8_wouldHave_1 : decode cX8_wouldHave 1 = .ok (.getfield 47, 3) := by decide +kernel
theorem dX8_wouldHave_4 : decode cX8_wouldHave 4 = .ok (.iload_n 2, 1) := by decide +kernel
theorem dX8_wouldHave_5 : decode cX8_wouldHave 5 = .ok (.ishr, 1) := by decide +kernel
theorem dX8_wouldHave_6 : decode cX8_wouldHave 6 = .ok (.iconst 1, 1) := by decide +kernel
theorem dX8_wouldHave_7 : decode cX8_wouldHave 7 = .ok (.iand, 1) := by decide +kernel
theorem dX8_wouldHave_8 : decode cX8_wouldHave 8 = .ok (.ifCond .eq 37, 3) := by decide +kernel
theorem dX8_wouldHave_11 : decode cX8_wouldHave 11 = .ok (.aload_n 1, 1) := by decide +kernel
theorem dX8_wouldHave_12 : decode cX8_wouldHave 12 = .ok (.getfield 63, 3) := by decide +kernel
theorem dX8_wouldHave_15 : decode cX8_wouldHave 15 = .ok (.iload_n 2, 1) := by decide +kernel
theorem dX8_wouldHave_16 : decode cX8_wouldHave 16 = .ok (.iaload, 1) := by decide +kernel
theorem dX8_wouldHave_17 : decode cX8_wouldHave 17 = .ok (.aload_n 1, 1) := by decide +kernel
theorem dX8_wouldHave_18 : decode cX8_wouldHave 18 = .ok (.getfield 73, 3) := by decide +kernel
theorem dX8_wouldHave_21 : decode cX8_wouldHave 21 = .ok (.iload_n 3, 1) := by decide +kernel
theorem dX8_wouldHave_22 : decode cX8_wouldHave 22 = .ok (.iaload, 1) := by decide +kernel
theorem dX8_wouldHave_23 : decode cX8_wouldHave 23 = .ok (.if_icmp .ne 22, 3) := by decide +kernel
theorem dX8_wouldHave_26 : decode cX8_wouldHave 26 = .ok (.aload_n 0, 1) := by decide +kernel
theorem dX8_wouldHave_27 : decode cX8_wouldHave 27 = .ok (.getfield 28, 3) := by decide +kernel
theorem dX8_wouldHave_30 : decode cX8_wouldHave 30 = .ok (.iload_n 2, 1) := by decide +kernel
theorem dX8_wouldHave_31 : decode cX8_wouldHave 31 = .ok (.iaload, 1) := by decide +kernel
theorem dX8_wouldHave_32 : decode cX8_wouldHave 32 = .ok (.aload_n 1, 1) := by decide +kernel
theorem dX8_wouldHave_33 : decode cX8_wouldHave 33 = .ok (.getfield 76, 3) := by decide +kernel
theorem dX8_wouldHave_36 : decode cX8_wouldHave 36 = .ok (.iload_n 3, 1) := by decide +kernel
theorem dX8_wouldHave_37 : decode cX8_wouldHave 37 = .ok (.iaload, 1) := by decide +kernel
theorem dX8_wouldHave_38 : decode cX8_wouldHave 38 = .ok (.if_icmp .le 7, 3) := by decide +kernel
theorem dX8_wouldHave_41 : decode cX8_wouldHave 41 = .ok (.iconst 1, 1) := by decide +kernel
theorem dX8_wouldHave_42 : decode cX8_wouldHave 42 = .ok (.goto 4, 3) := by decide +kernel
theorem dX8_wouldHave_45 : decode cX8_wouldHave 45 = .ok (.iconst 0, 1) := by decide +kernel
theorem dX8_wouldHave_46 : decode cX8_wouldHave 46 = .ok (.ireturn, 1) := by decide +kernel
set_option maxHeartbeats 4000000 in
set_option maxRecDepth 100000 in
theorem t_clear (l : Launch) (D : va_G) (K : Nat → ClassId) (ad : Nat → Nat) (z : TS) (o : Ok z) (p0 : Nat) (ap0 : at_ 8 p0 = true) : cV l yX8_clear cX8_clear 2 ({ frames := 0, cells := 0, slots := 0, locals := 0 }) D K ad z [.ref (ad p0)] (fun u => Ok u ∧ KC z u) := by
  refine t_enterV (by decide) (Nat.le_of_ble_eq_true rfl) rfl rfl ?_
  intro p e s m args below meth c A R Q H locs ls E hfr hlo RET G hl
  have E : mE p s m meth c cX8_clear args 2 RX8 D K A := E
  have hl : lv_has ls 2 [(0, .ref (ad p0))] := hl
  refine lv_aload_n E.1 E.2.1 dX8_clear_0 rfl (lv_at hl 0 rfl) ?_
  refine lv_iconst (v := 0) E.1 E.2.1 dX8_clear_1 (by decide) ?_
  refine t_puti E G 8 0 (at_ro (i := 0) ap0 (by decide) : ro p0 = 8) (C := RX8) (T := TX8) (N := 10) rfl (by decide) (by decide) (by decide) rfl rfl mw_fl_8_9 rfl dX8_clear_2 (fun H locs G => ?_)
  obtain ⟨zz1, G, oo2, kk3, h4⟩ : ∃ u : TS, mG D A s H locs (wd K ad u) ∧ Ok u ∧ KC z u ∧ tI u p0 0 = 0 := ⟨_, G, ok_i o 8 (at_ro (i := 0) ap0 (by decide) : ro p0 = 8) (iv_mono (iv_lit (lo := 0) (hi := 0) 0 (by decide) (by decide)) (by decide) (by decide)) (by decide), KC.tr KC.rf (KC_i 8 (at_ro (i := 0) ap0 (by decide) : ro p0 = 8) (by decide)), sI_self⟩
  refine lv_aload_n E.1 E.2.1 dX8_clear_5 rfl (lv_at hl 0 rfl) ?_
  refine lv_iconst (v := 0) E.1 E.2.1 dX8_clear_6 (by decide) ?_
  refine t_puti E G 8 1 (at_ro (i := 0) ap0 (by decide) : ro p0 = 8) (C := RX8) (T := TX8) (N := 10) rfl (by decide) (by decide) (by decide) rfl rfl mw_fl_8_15 rfl dX8_clear_7 (fun H locs G => ?_)
  obtain ⟨zz5, G, oo6, kk7, h8, h9⟩ : ∃ u : TS, mG D A s H locs (wd K ad u) ∧ Ok u ∧ KC z u ∧ tI u p0 0 = 0 ∧ tI u p0 1 = 0 := ⟨_, G, ok_i oo2 8 (at_ro (i := 0) ap0 (by decide) : ro p0 = 8) (iv_mono (iv_lit (lo := 0) (hi := 0) 0 (by decide) (by decide)) (by decide) (by decide)) (by decide), KC.tr kk3 (KC_i 8 (at_ro (i := 0) ap0 (by decide) : ro p0 = 8) (by decide)), (sI_k h4 (by decide)), sI_self⟩
  refine lv_aload_n E.1 E.2.1 dX8_clear_10 rfl (lv_at hl 0 rfl) ?_
  refine lv_iconst (v := 0) E.1 E.2.1 dX8_clear_11 (by decide) ?_
  refine t_puti E G 8 2 (at_ro (i := 0) ap0 (by decide) : ro p0 = 8) (C := RX8) (T := TX8) (N := 10) rfl (by decide) (by decide) (by decide) rfl rfl mw_fl_8_18 rfl dX8_clear_12 (fun H locs G => ?_)
  obtain ⟨zz10, G, oo11, kk12, h13, h14, h15⟩ : ∃ u : TS, mG D A s H locs (wd K ad u) ∧ Ok u ∧ KC z u ∧ tI u p0 0 = 0 ∧ tI u p0 1 = 0 ∧ tI u p0 2 = 0 := ⟨_, G, ok_i oo6 8 (at_ro (i := 0) ap0 (by decide) : ro p0 = 8) (iv_mono (iv_lit (lo := 0) (hi := 0) 0 (by decide) (by decide)) (by decide) (by decide)) (by decide), KC.tr kk7 (KC_i 8 (at_ro (i := 0) ap0 (by decide) : ro p0 = 8) (by decide)), (sI_k h8 (by decide)), (sI_k h9 (by decide)), sI_self⟩
  refine lv_aload_n E.1 E.2.1 dX8_clear_15 rfl (lv_at hl 0 rfl) ?_
  refine lv_iconst (v := 0) E.1 E.2.1 dX8_clear_16 (by decide) ?_
  refine t_puti E G 8 3 (at_ro (i := 0) ap0 (by decide) : ro p0 = 8) (C := RX8) (T := TX8) (N := 10) rfl (by decide) (by decide) (by decide) rfl rfl mw_fl_8_21 rfl dX8_clear_17 (fun H locs G => ?_)
  obtain ⟨zz16, G, oo17, kk18, h19, h20, h21, h22⟩ : ∃ u : TS, mG D A s H locs (wd K ad u) ∧ Ok u ∧ KC z u ∧ tI u p0 0 = 0 ∧ tI u p0 1 = 0 ∧ tI u p0 2 = 0 ∧ tI u p0 3 = 0 := ⟨_, G, ok_i oo11 8 (at_ro (i := 0) ap0 (by decide) : ro p0 = 8) (iv_mono (iv_lit (lo := 0) (hi := 0) 0 (by decide) (by decide)) (by decide) (by decide)) (by decide), KC.tr kk12 (KC_i 8 (at_ro (i := 0) ap0 (by decide) : ro p0 = 8) (by decide)), (sI_k h13 (by decide)), (sI_k h14 (by decide)), (sI_k h15 (by decide)), sI_self⟩
  refine lv_aload_n E.1 E.2.1 dX8_clear_20 rfl (lv_at hl 0 rfl) ?_
  refine t_get E G 8 8 (at_ro (i := 0) ap0 (by decide) : ro p0 = 8) (C := RX8) (T := TX8) (N := 10) rfl (by decide) (by decide) (by decide) mw_fl_8_40 (v := .ref (ad (p0 + 5))) (fvl_o (n := 5) rfl) dX8_clear_21 ?_
  refine lv_iconst (v := 0) E.1 E.2.1 dX8_clear_24 (by decide) ?_
  refine t_puti E G 6 6 (at_ro (i := 5) ap0 (by decide) : ro (p0 + 5) = 6) (C := RX6) (T := TX6) (N := 8) rfl (by decide) (by decide) (by decide) rfl rfl mw_fl_8_47 rfl dX8_clear_25 (fun H locs G => ?_)
  obtain ⟨zz23, G, oo24, kk25, h26, h27, h28, h29, h30⟩ : ∃ u : TS, mG D A s H locs (wd K ad u) ∧ Ok u ∧ KC z u ∧ tI u p0 0 = 0 ∧ tI u p0 1 = 0 ∧ tI u p0 2 = 0 ∧ tI u p0 3 = 0 ∧ tI u (p0 + 5) 6 = 0 := ⟨_, G, ok_i oo17 6 (at_ro (i := 5) ap0 (by decide) : ro (p0 + 5) = 6) (iv_mono (iv_lit (lo := 0) (hi := 0) 0 (by decide) (by decide)) (by decide) (by decide)) (by decide), KC.tr kk18 (KC_i 6 (at_ro (i := 5) ap0 (by decide) : ro (p0 + 5) = 6) (by decide)), (sI_k h19 (by decide)), (sI_k h20 (by decide)), (sI_k h21 (by decide)), (sI_k h22 (by decide)), sI_self⟩
  refine lv_iconst (v := 0) E.1 E.2.1 dX8_clear_28 (by decide) ?_
  refine lv_istore_n (lv' := [(1, .int 0), (0, .ref (ad p0))]) E.1 E.2.1 dX8_clear_29 rfl hl (by decide) rfl (fun ls hl => ?_)
  have LOOP30 : ∀ n : Nat, ∀ (zz32 : TS) (y31 : Int32) (H : Heap) (locs : List Loc) (ls : Array Slot), mG D A s H locs (wd K ad zz32) → Ok zz32 → KC z zz32 → iv 0 8 y31 → 8 < y31.toInt + (n : Int) → lv_has ls 2 [(1, .int y31), (0, .ref (ad p0))] → W p l e R s m args below meth c H locs 0 0 Q (F0 m 30 ls []) := by
    intro n
    induction n with
    | zero =>
      intro zz32 y31 H locs ls G oo33 kk34 b36 m35 hl
      exact absurd m35 (by have := b36.1; have := b36.2; omega)
    | succ n ih30 =>
      intro zz32 y31 H locs ls G oo33 kk34 b36 m35 hl
      refine lv_iload_n E.1 E.2.1 dX8_clear_30 rfl (lv_at hl 0 rfl) ?_
      refine lv_bipush (v := 8) E.1 E.2.1 dX8_clear_31 (by decide) ?_
      refine lv_icmp_ge (tgt := 49) E.1 E.2.1 dX8_clear_33 (by decide) (fun c37 => ?_) (fun c37 => ?_)
      · skip
        have b38 : iv 8 8 y31 := le_r c37 (iv_lit (lo := 8) (hi := 8) 8 (by decide) (by decide)) b36 (by decide)
        exact RET G ⟨oo33, kk34⟩ dX8_clear_49
      · skip
        have b39 : iv 0 7 y31 := lt_l (Int32.not_le.mp c37) b36 (iv_lit (lo := 8) (hi := 8) 8 (by decide) (by decide)) (by decide)
        refine lv_aload_n E.1 E.2.1 dX8_clear_36 rfl (lv_at hl 1 rfl) ?_
        refine t_get E G 8 4 (at_ro (i := 0) ap0 (by decide) : ro p0 = 8) (C := RX8) (T := TX8) (N := 10) rfl (by decide) (by decide) (by decide) mw_fl_8_24 (v := .ref (ad (p0 + 1))) (fvl_o (n := 1) rfl) dX8_clear_37 ?_
        refine lv_iload_n E.1 E.2.1 dX8_clear_40 rfl (lv_at hl 0 rfl) ?_
        refine lv_iconst (v := 0) E.1 E.2.1 dX8_clear_41 (by decide) ?_
        refine t_iast E G 24 (at_ro (i := 1) ap0 (by decide) : ro (p0 + 1) = 24) (by decide) (by decide) rfl (n := 8) rfl (iv_vp b39 (by decide) (by decide)) dX8_clear_42 (fun H locs G => ?_)
        obtain ⟨zz40, G, oo41, kk42⟩ : ∃ u : TS, mG D A s H locs (wd K ad u) ∧ Ok u ∧ KC z u := ⟨_, G, ok_uc oo33 24 (at_ro (i := 1) ap0 (by decide) : ro (p0 + 1) = 24) (by decide) (iv_mono (iv_lit (lo := 0) (hi := 0) 0 (by decide) (by decide)) (by decide) (by decide)) (by decide), KC.tr kk34 (KC_r 24 (at_ro (i := 1) ap0 (by decide) : ro (p0 + 1) = 24) (by decide))⟩
        obtain ⟨v43, e44⟩ : ∃ w : Int32, w = y31 + (1 : Int32) := ⟨_, rfl⟩
        refine lv_iinc (v := v43) (lv' := [(1, .int v43), (0, .ref (ad p0))]) E.1 E.2.1 dX8_clear_43 hl (k := 0) rfl (by rw [e44]; rfl) (by decide) rfl (fun ls hl => ?_)
        have b45 : iv 1 8 v43 := by rw [e44]; exact iv_add b39 (iv_lit (lo := 1) (hi := 1) 1 (by decide) (by decide)) (by decide) (by decide) (by decide) (by decide)
        have t46 : v43.toInt = y31.toInt + 1 := by rw [e44]; exact ti_addc 1 (by decide) b39 (by decide) (by decide)
        refine lv_goto (tgt := 30) E.1 E.2.1 dX8_clear_46 (by decide) ?_
        exact ih30 zz40 v43 H locs ls G oo41 kk42 (iv_mono b45 (by decide) (by decide)) (by have := t46; have := m35; omega) (lv_sub hl [0, 1] rfl)
  exact LOOP30 9 zz23 0 H locs ls G oo24 kk25 (iv_mono (iv_lit (lo := 0) (hi := 0) 0 (by decide) (by decide)) (by decide) (by decide)) (by have := (iv_lit (lo := 0) (hi := 0) 0 (by decide) (by decide)).1; omega) (lv_sub hl [0, 1] rfl)
set_option maxHeartbeats 4000000 in
set_option maxRecDepth 100000 in
theorem t_copy (l : Launch) (D : va_G) (K : Nat → ClassId) (ad : Nat → Nat) (z : TS) (o : Ok z) (p0 : Nat) (ap0 : at_ 8 p0 = true) (p1 : Nat) (ap1 : at_ 8 p1 = true) : cV l yX8_copyFrom cX8_copyFrom 2 ({ frames := 2, cells := 0, slots := 0, locals := 47 }) D K ad z [.ref (ad p0), .ref (ad p1)] (fun u => Ok u ∧ KC z u) := by
  refine t_enterV (by decide) (Nat.le_of_ble_eq_true rfl) rfl rfl ?_
  intro p e s m args below meth c A R Q H locs ls E hfr hlo RET G hl
  have E : mE p s m meth c cX8_copyFrom args 2 RX8 D K A := E
  have hl : lv_has ls 2 [(0, .ref (ad p0)), (1, .ref (ad p1))] := hl
  refine lv_aload_n E.1 E.2.1 dX8_copyFrom_0 rfl (lv_at hl 0 rfl) ?_
  refine lv_aload_n E.1 E.2.1 dX8_copyFrom_1 rfl (lv_at hl 1 rfl) ?_
  refine t_get E G 8 0 (at_ro (i := 0) ap1 (by decide) : ro p1 = 8) (C := RX8) (T := TX8) (N := 10) rfl (by decide) (by decide) (by decide) mw_fl_8_9 (fvl_i rfl) dX8_copyFrom_2 ?_
  refine lv_topi (fun v1 e2 => ?_)
  have b3 : iv 0 8 v1 := by rw [e2]; exact o.i 8 0 (at_ro (i := 0) ap1 (by decide) : ro p1 = 8)
  refine t_puti E G 8 0 (at_ro (i := 0) ap0 (by decide) : ro p0 = 8) (C := RX8) (T := TX8) (N := 10) rfl (by decide) (by decide) (by decide) rfl rfl mw_fl_8_9 rfl dX8_copyFrom_5 (fun H locs G => ?_)
  obtain ⟨zz4, G, oo5, kk6, h7⟩ : ∃ u : TS, mG D A s H locs (wd K ad u) ∧ Ok u ∧ KC z u ∧ tI u p0 0 = v1 := ⟨_, G, ok_i o 8 (at_ro (i := 0) ap0 (by decide) : ro p0 = 8) (iv_mono b3 (by decide) (by decide)) (by decide), KC.tr KC.rf (KC_i 8 (at_ro (i := 0) ap0 (by decide) : ro p0 = 8) (by decide)), sI_self⟩
  refine lv_aload_n E.1 E.2.1 dX8_copyFrom_8 rfl (lv_at hl 0 rfl) ?_
  refine lv_aload_n E.1 E.2.1 dX8_copyFrom_9 rfl (lv_at hl 1 rfl) ?_
  refine t_get E G 8 1 (at_ro (i := 0) ap1 (by decide) : ro p1 = 8) (C := RX8) (T := TX8) (N := 10) rfl (by decide) (by decide) (by decide) mw_fl_8_15 (fvl_i rfl) dX8_copyFrom_10 ?_
  refine lv_topi (fun v8 e9 => ?_)
  refine t_puti E G 8 1 (at_ro (i := 0) ap0 (by decide) : ro p0 = 8) (C := RX8) (T := TX8) (N := 10) rfl (by decide) (by decide) (by decide) rfl rfl mw_fl_8_15 rfl dX8_copyFrom_13 (fun H locs G => ?_)
  obtain ⟨zz10, G, oo11, kk12, h13, h14⟩ : ∃ u : TS, mG D A s H locs (wd K ad u) ∧ Ok u ∧ KC z u ∧ tI u p0 0 = v1 ∧ tI u p0 1 = v8 := ⟨_, G, ok_i oo5 8 (at_ro (i := 0) ap0 (by decide) : ro p0 = 8) (iv_mono (iv_full v8) (by decide) (by decide)) (by decide), KC.tr kk6 (KC_i 8 (at_ro (i := 0) ap0 (by decide) : ro p0 = 8) (by decide)), (sI_k h7 (by decide)), sI_self⟩
  refine lv_aload_n E.1 E.2.1 dX8_copyFrom_16 rfl (lv_at hl 0 rfl) ?_
  refine lv_aload_n E.1 E.2.1 dX8_copyFrom_17 rfl (lv_at hl 1 rfl) ?_
  refine t_get E G 8 2 (at_ro (i := 0) ap1 (by decide) : ro p1 = 8) (C := RX8) (T := TX8) (N := 10) rfl (by decide) (by decide) (by decide) mw_fl_8_18 (fvl_i rfl) dX8_copyFrom_18 ?_
  refine lv_topi (fun v15 e16 => ?_)
  have b17 : iv 0 6 v15 := by rw [e16]; exact oo11.i 8 2 (at_ro (i := 0) ap1 (by decide) : ro p1 = 8)
  refine t_puti E G 8 2 (at_ro (i := 0) ap0 (by decide) : ro p0 = 8) (C := RX8) (T := TX8) (N := 10) rfl (by decide) (by decide) (by decide) rfl rfl mw_fl_8_18 rfl dX8_copyFrom_21 (fun H locs G => ?_)
  obtain ⟨zz18, G, oo19, kk20, h21, h22, h23⟩ : ∃ u : TS, mG D A s H locs (wd K ad u) ∧ Ok u ∧ KC z u ∧ tI u p0 0 = v1 ∧ tI u p0 1 = v8 ∧ tI u p0 2 = v15 := ⟨_, G, ok_i oo11 8 (at_ro (i := 0) ap0 (by decide) : ro p0 = 8) (iv_mono b17 (by decide) (by decide)) (by decide), KC.tr kk12 (KC_i 8 (at_ro (i := 0) ap0 (by decide) : ro p0 = 8) (by decide)), (sI_k h13 (by decide)), (sI_k h14 (by decide)), sI_self⟩
  refine lv_aload_n E.1 E.2.1 dX8_copyFrom_24 rfl (lv_at hl 0 rfl) ?_
  refine lv_aload_n E.1 E.2.1 dX8_copyFrom_25 rfl (lv_at hl 1 rfl) ?_
  refine t_get E G 8 3 (at_ro (i := 0) ap1 (by decide) : ro p1 = 8) (C := RX8) (T := TX8) (N := 10) rfl (by decide) (by decide) (by decide) mw_fl_8_21 (fvl_i rfl) dX8_copyFrom_26 ?_
  refine lv_topi (fun v24 e25 => ?_)
  have b26 : iv 0 5 v24 := by rw [e25]; exact oo19.i 8 3 (at_ro (i := 0) ap1 (by decide) : ro p1 = 8)
  refine t_puti E G 8 3 (at_ro (i := 0) ap0 (by decide) : ro p0 = 8) (C := RX8) (T := TX8) (N := 10) rfl (by decide) (by decide) (by decide) rfl rfl mw_fl_8_21 rfl dX8_copyFrom_29 (fun H locs G => ?_)
  obtain ⟨zz27, G, oo28, kk29, h30, h31, h32, h33⟩ : ∃ u : TS, mG D A s H locs (wd K ad u) ∧ Ok u ∧ KC z u ∧ tI u p0 0 = v1 ∧ tI u p0 1 = v8 ∧ tI u p0 2 = v15 ∧ tI u p0 3 = v24 := ⟨_, G, ok_i oo19 8 (at_ro (i := 0) ap0 (by decide) : ro p0 = 8) (iv_mono b26 (by decide) (by decide)) (by decide), KC.tr kk20 (KC_i 8 (at_ro (i := 0) ap0 (by decide) : ro p0 = 8) (by decide)), (sI_k h21 (by decide)), (sI_k h22 (by decide)), (sI_k h23 (by decide)), sI_self⟩
  refine lv_aload_n E.1 E.2.1 dX8_copyFrom_32 rfl (lv_at hl 1 rfl) ?_
  refine t_get E G 8 4 (at_ro (i := 0) ap1 (by decide) : ro p1 = 8) (C := RX8) (T := TX8) (N := 10) rfl (by decide) (by decide) (by decide) mw_fl_8_24 (v := .ref (ad (p1 + 1))) (fvl_o (n := 1) rfl) dX8_copyFrom_33 ?_
  refine lv_iconst (v := 0) E.1 E.2.1 dX8_copyFrom_36 (by decide) ?_
  refine lv_aload_n E.1 E.2.1 dX8_copyFrom_37 rfl (lv_at hl 0 rfl) ?_
  refine t_get E G 8 4 (at_ro (i := 0) ap0 (by decide) : ro p0 = 8) (C := RX8) (T := TX8) (N := 10) rfl (by decide) (by decide) (by decide) mw_fl_8_24 (v := .ref (ad (p0 + 1))) (fvl_o (n := 1) rfl) dX8_copyFrom_38 ?_
  refine lv_iconst (v := 0) E.1 E.2.1 dX8_copyFrom_41 (by decide) ?_
  refine lv_bipush (v := 8) E.1 E.2.1 dX8_copyFrom_42 (by decide) ?_
  refine t_copyi E G hl mw_ml_8_50 24 24 (at_ro (i := 1) ap1 (by decide) : ro (p1 + 1) = 24) (at_ro (i := 1) ap0 (by decide) : ro (p0 + 1) = 24) (by decide) (by decide) (by decide) (by decide) rfl rfl (n0 := 8) (n1 := 8) rfl rfl (by decide) (by decide) (by decide) (by decide) (by decide) (Nat.le_trans (by decide) hfr) (Nat.le_of_ble_eq_true rfl) (Nat.le_trans (by decide) hlo) dX8_copyFrom_44 (fun H locs G => ?_)
  obtain ⟨zz34, G, oo35, kk36, h37, h38, h39, h40⟩ : ∃ u : TS, mG D A s H locs (wd K ad u) ∧ Ok u ∧ KC z u ∧ tI u p0 0 = v1 ∧ tI u p0 1 = v8 ∧ tI u p0 2 = v15 ∧ tI u p0 3 = v24 := ⟨_, G, ok_cc oo28 24 24 (at_ro (i := 1) ap1 (by decide) : ro (p1 + 1) = 24) (at_ro (i := 1) ap0 (by decide) : ro (p0 + 1) = 24) (by decide) (by decide) (by decide) (by decide) (by decide), KC.tr kk29 (KC_r 24 (at_ro (i := 1) ap0 (by decide) : ro (p0 + 1) = 24) (by decide)), h30, h31, h32, h33⟩
  refine lv_aload_n E.1 E.2.1 dX8_copyFrom_47 rfl (lv_at hl 1 rfl) ?_
  refine t_get E G 8 5 (at_ro (i := 0) ap1 (by decide) : ro p1 = 8) (C := RX8) (T := TX8) (N := 10) rfl (by decide) (by decide) (by decide) mw_fl_8_28 (v := .ref (ad (p1 + 2))) (fvl_o (n := 2) rfl) dX8_copyFrom_48 ?_
  refine lv_iconst (v := 0) E.1 E.2.1 dX8_copyFrom_51 (by decide) ?_
  refine lv_aload_n E.1 E.2.1 dX8_copyFrom_52 rfl (lv_at hl 0 rfl) ?_
  refine t_get E G 8 5 (at_ro (i := 0) ap0 (by decide) : ro p0 = 8) (C := RX8) (T := TX8) (N := 10) rfl (by decide) (by decide) (by decide) mw_fl_8_28 (v := .ref (ad (p0 + 2))) (fvl_o (n := 2) rfl) dX8_copyFrom_53 ?_
  refine lv_iconst (v := 0) E.1 E.2.1 dX8_copyFrom_56 (by decide) ?_
  refine lv_bipush (v := 6) E.1 E.2.1 dX8_copyFrom_57 (by decide) ?_
  refine t_copyi E G hl mw_ml_8_50 23 23 (at_ro (i := 2) ap1 (by decide) : ro (p1 + 2) = 23) (at_ro (i := 2) ap0 (by decide) : ro (p0 + 2) = 23) (by decide) (by decide) (by decide) (by decide) rfl rfl (n0 := 6) (n1 := 6) rfl rfl (by decide) (by decide) (by decide) (by decide) (by decide) (Nat.le_trans (by decide) hfr) (Nat.le_of_ble_eq_true rfl) (Nat.le_trans (by decide) hlo) dX8_copyFrom_59 (fun H locs G => ?_)
  obtain ⟨zz41, G, oo42, kk43, h44, h45, h46, h47⟩ : ∃ u : TS, mG D A s H locs (wd K ad u) ∧ Ok u ∧ KC z u ∧ tI u p0 0 = v1 ∧ tI u p0 1 = v8 ∧ tI u p0 2 = v15 ∧ tI u p0 3 = v24 := ⟨_, G, ok_cc oo35 23 23 (at_ro (i := 2) ap1 (by decide) : ro (p1 + 2) = 23) (at_ro (i := 2) ap0 (by decide) : ro (p0 + 2) = 23) (by decide) (by decide) (by decide) (by decide) (by decide), KC.tr kk36 (KC_r 23 (at_ro (i := 2) ap0 (by decide) : ro (p0 + 2) = 23) (by decide)), h37, h38, h39, h40⟩
  refine lv_aload_n E.1 E.2.1 dX8_copyFrom_62 rfl (lv_at hl 1 rfl) ?_
  refine t_get E G 8 6 (at_ro (i := 0) ap1 (by decide) : ro p1 = 8) (C := RX8) (T := TX8) (N := 10) rfl (by decide) (by decide) (by decide) mw_fl_8_31 (v := .ref (ad (p1 + 3))) (fvl_o (n := 3) rfl) dX8_copyFrom_63 ?_
  refine lv_iconst (v := 0) E.1 E.2.1 dX8_copyFrom_66 (by decide) ?_
  refine lv_aload_n E.1 E.2.1 dX8_copyFrom_67 rfl (lv_at hl 0 rfl) ?_
  refine t_get E G 8 6 (at_ro (i := 0) ap0 (by decide) : ro p0 = 8) (C := RX8) (T := TX8) (N := 10) rfl (by decide) (by decide) (by decide) mw_fl_8_31 (v := .ref (ad (p0 + 3))) (fvl_o (n := 3) rfl) dX8_copyFrom_68 ?_
  refine lv_iconst (v := 0) E.1 E.2.1 dX8_copyFrom_71 (by decide) ?_
  refine lv_bipush (v := 6) E.1 E.2.1 dX8_copyFrom_72 (by decide) ?_
  refine t_copyi E G hl mw_ml_8_50 23 23 (at_ro (i := 3) ap1 (by decide) : ro (p1 + 3) = 23) (at_ro (i := 3) ap0 (by decide) : ro (p0 + 3) = 23) (by decide) (by decide) (by decide) (by decide) rfl rfl (n0 := 6) (n1 := 6) rfl rfl (by decide) (by decide) (by decide) (by decide) (by decide) (Nat.le_trans (by decide) hfr) (Nat.le_of_ble_eq_true rfl) (Nat.le_trans (by decide) hlo) dX8_copyFrom_74 (fun H locs G => ?_)
  obtain ⟨zz48, G, oo49, kk50, h51, h52, h53, h54⟩ : ∃ u : TS, mG D A s H locs (wd K ad u) ∧ Ok u ∧ KC z u ∧ tI u p0 0 = v1 ∧ tI u p0 1 = v8 ∧ tI u p0 2 = v15 ∧ tI u p0 3 = v24 := ⟨_, G, ok_cc oo42 23 23 (at_ro (i := 3) ap1 (by decide) : ro (p1 + 3) = 23) (at_ro (i := 3) ap0 (by decide) : ro (p0 + 3) = 23) (by decide) (by decide) (by decide) (by decide) (by decide), KC.tr kk43 (KC_r 23 (at_ro (i := 3) ap0 (by decide) : ro (p0 + 3) = 23) (by decide)), h44, h45, h46, h47⟩
  refine lv_aload_n E.1 E.2.1 dX8_copyFrom_77 rfl (lv_at hl 1 rfl) ?_
  refine t_get E G 8 7 (at_ro (i := 0) ap1 (by decide) : ro p1 = 8) (C := RX8) (T := TX8) (N := 10) rfl (by decide) (by decide) (by decide) mw_fl_8_34 (v := .ref (ad (p1 + 4))) (fvl_o (n := 4) rfl) dX8_copyFrom_78 ?_
  refine lv_iconst (v := 0) E.1 E.2.1 dX8_copyFrom_81 (by decide) ?_
  refine lv_aload_n E.1 E.2.1 dX8_copyFrom_82 rfl (lv_at hl 0 rfl) ?_
  refine t_get E G 8 7 (at_ro (i := 0) ap0 (by decide) : ro p0 = 8) (C := RX8) (T := TX8) (N := 10) rfl (by decide) (by decide) (by decide) mw_fl_8_34 (v := .ref (ad (p0 + 4))) (fvl_o (n := 4) rfl) dX8_copyFrom_83 ?_
  refine lv_iconst (v := 0) E.1 E.2.1 dX8_copyFrom_86 (by decide) ?_
  refine lv_iconst (v := 5) E.1 E.2.1 dX8_copyFrom_87 (by decide) ?_
  refine t_copyi E G hl mw_ml_8_50 25 25 (at_ro (i := 4) ap1 (by decide) : ro (p1 + 4) = 25) (at_ro (i := 4) ap0 (by decide) : ro (p0 + 4) = 25) (by decide) (by decide) (by decide) (by decide) rfl rfl (n0 := 5) (n1 := 5) rfl rfl (by decide) (by decide) (by decide) (by decide) (by decide) (Nat.le_trans (by decide) hfr) (Nat.le_of_ble_eq_true rfl) (Nat.le_trans (by decide) hlo) dX8_copyFrom_88 (fun H locs G => ?_)
  obtain ⟨zz55, G, oo56, kk57, h58, h59, h60, h61⟩ : ∃ u : TS, mG D A s H locs (wd K ad u) ∧ Ok u ∧ KC z u ∧ tI u p0 0 = v1 ∧ tI u p0 1 = v8 ∧ tI u p0 2 = v15 ∧ tI u p0 3 = v24 := ⟨_, G, ok_cc oo49 25 25 (at_ro (i := 4) ap1 (by decide) : ro (p1 + 4) = 25) (at_ro (i := 4) ap0 (by decide) : ro (p0 + 4) = 25) (by decide) (by decide) (by decide) (by decide) (by decide), KC.tr kk50 (KC_r 25 (at_ro (i := 4) ap0 (by decide) : ro (p0 + 4) = 25) (by decide)), h51, h52, h53, h54⟩
  refine lv_aload_n E.1 E.2.1 dX8_copyFrom_91 rfl (lv_at hl 1 rfl) ?_
  refine t_get E G 8 9 (at_ro (i := 0) ap1 (by decide) : ro p1 = 8) (C := RX8) (T := TX8) (N := 10) rfl (by decide) (by decide) (by decide) mw_fl_8_44 (v := .ref (ad (p1 + 12))) (fvl_o (n := 12) rfl) dX8_copyFrom_92 ?_
  refine lv_iconst (v := 0) E.1 E.2.1 dX8_copyFrom_95 (by decide) ?_
  refine lv_aload_n E.1 E.2.1 dX8_copyFrom_96 rfl (lv_at hl 0 rfl) ?_
  refine t_get E G 8 9 (at_ro (i := 0) ap0 (by decide) : ro p0 = 8) (C := RX8) (T := TX8) (N := 10) rfl (by decide) (by decide) (by decide) mw_fl_8_44 (v := .ref (ad (p0 + 12))) (fvl_o (n := 12) rfl) dX8_copyFrom_97 ?_
  refine lv_iconst (v := 0) E.1 E.2.1 dX8_copyFrom_100 (by decide) ?_
  refine lv_bipush (v := 64) E.1 E.2.1 dX8_copyFrom_101 (by decide) ?_
  refine t_copyi E G hl mw_ml_8_50 26 26 (at_ro (i := 12) ap1 (by decide) : ro (p1 + 12) = 26) (at_ro (i := 12) ap0 (by decide) : ro (p0 + 12) = 26) (by decide) (by decide) (by decide) (by decide) rfl rfl (n0 := 64) (n1 := 64) rfl rfl (by decide) (by decide) (by decide) (by decide) (by decide) (Nat.le_trans (by decide) hfr) (Nat.le_of_ble_eq_true rfl) (Nat.le_trans (by decide) hlo) dX8_copyFrom_103 (fun H locs G => ?_)
  obtain ⟨zz62, G, oo63, kk64, h65, h66, h67, h68⟩ : ∃ u : TS, mG D A s H locs (wd K ad u) ∧ Ok u ∧ KC z u ∧ tI u p0 0 = v1 ∧ tI u p0 1 = v8 ∧ tI u p0 2 = v15 ∧ tI u p0 3 = v24 := ⟨_, G, ok_cc oo56 26 26 (at_ro (i := 12) ap1 (by decide) : ro (p1 + 12) = 26) (at_ro (i := 12) ap0 (by decide) : ro (p0 + 12) = 26) (by decide) (by decide) (by decide) (by decide) (by decide), KC.tr kk57 (KC_r 26 (at_ro (i := 12) ap0 (by decide) : ro (p0 + 12) = 26) (by decide)), h58, h59, h60, h61⟩
  refine lv_aload_n E.1 E.2.1 dX8_copyFrom_106 rfl (lv_at hl 0 rfl) ?_
  refine t_get E G 8 8 (at_ro (i := 0) ap0 (by decide) : ro p0 = 8) (C := RX8) (T := TX8) (N := 10) rfl (by decide) (by decide) (by decide) mw_fl_8_40 (v := .ref (ad (p0 + 5))) (fvl_o (n := 5) rfl) dX8_copyFrom_107 ?_
  refine lv_aload_n E.1 E.2.1 dX8_copyFrom_110 rfl (lv_at hl 1 rfl) ?_
  refine t_get E G 8 8 (at_ro (i := 0) ap1 (by decide) : ro p1 = 8) (C := RX8) (T := TX8) (N := 10) rfl (by decide) (by decide) (by decide) mw_fl_8_40 (v := .ref (ad (p1 + 5))) (fvl_o (n := 5) rfl) dX8_copyFrom_111 ?_
  refine t_vv E G hl (s_copy l D K ad zz62 oo63 (p0 + 5) (at_sub 6 5 ap0 (by decide) (by decide)) (p1 + 5) (at_sub 6 5 ap1 (by decide) (by decide))) 6 (at_ro (i := 5) ap0 (by decide) : ro (p0 + 5) = 6) (by decide) rfl rfl 1 rfl mw_code_X6_copyFrom mw_ini_6 mw_ml_8_56 mw_inst_X6_copyFrom mw_sel_X6_copyFrom hd_X6_copyFrom ⟨Nat.le_trans (by decide) hfr, Nat.le_trans (by decide) hlo⟩ rfl rfl rfl (Nat.le_of_ble_eq_true rfl) dX8_copyFrom_114 (fun zz69 H locs hp71 G => ?_)
  obtain ⟨oo72, kk73⟩ := hp71
  have kk74 : KC z zz69 := KC.tr kk64 kk73
  exact RET G ⟨oo72, kk74⟩ dX8_copyFrom_117
set_option maxHeartbeats 4000000 in
set_option maxRecDepth 100000 in
theorem t_join (l : Launch) (D : va_G) (K : Nat → ClassId) (ad : Nat → Nat) (z : TS) (o : Ok z) (p0 : Nat) (ap0 : at_ 8 p0 = true) (x1 : Int32) (bx1 : iv 0 7 x1) (x2 : Int32) (bx2 : iv 0 7 x2) : cV l yX8_join cX8_join 3 ({ frames := 0, cells := 0, slots := 0, locals := 0 }) D K ad z [.ref (ad p0), .int x1, .int x2] (fun u => Ok u ∧ KC z u) := by
  refine t_enterV (by decide) (Nat.le_of_ble_eq_true rfl) rfl rfl ?_
  intro p e s m args below meth c A R Q H locs ls E hfr hlo RET G hl
  have E : mE p s m meth c cX8_join args 3 RX8 D K A := E
  have hl : lv_has ls 3 [(0, .ref (ad p0)), (1, .int x1), (2, .int x2)] := hl
  refine lv_aload_n E.1 E.2.1 dX8_join_0 rfl (lv_at hl 0 rfl) ?_
  refine t_get E G 8 4 (at_ro (i := 0) ap0 (by decide) : ro p0 = 8) (C := RX8) (T := TX8) (N := 10) rfl (by decide) (by decide) (by decide) mw_fl_8_24 (v := .ref (ad (p0 + 1))) (fvl_o (n := 1) rfl) dX8_join_1 ?_
  refine lv_iload_n E.1 E.2.1 dX8_join_4 rfl (lv_at hl 1 rfl) ?_
  refine t_iald E G 24 (at_ro (i := 1) ap0 (by decide) : ro (p0 + 1) = 24) (by decide) (by decide) rfl (n := 8) rfl (iv_vp bx1 (by decide) (by decide)) dX8_join_5 ?_
  refine lv_topi (fun v1 e2 => ?_)
  refine lv_iload_n E.1 E.2.1 dX8_join_6 rfl (lv_at hl 2 rfl) ?_
  refine lv_ishr E.1 E.2.1 dX8_join_7 ?_
  refine lv_topi (fun v3 e4 => ?_)
  refine lv_iconst (v := 1) E.1 E.2.1 dX8_join_8 (by decide) ?_
  refine lv_iand E.1 E.2.1 dX8_join_9 ?_
  refine lv_topi (fun v5 e6 => ?_)
  have b7 : iv 0 1 v5 := by rw [e6]; exact iv_and (iv_lit (lo := 1) (hi := 1) 1 (by decide) (by decide)) (by decide)
  refine lv_if_ne (tgt := 47) E.1 E.2.1 dX8_join_10 (by decide) (fun c8 => ?_) (fun c8 => ?_)
  · skip
    have b9 : iv 1 1 v5 := ne_lo c8 b7 (by decide) (by decide)
    exact RET G ⟨o, KC.rf⟩ dX8_join_47
  · skip
    have b10 : iv 0 0 v5 := iv_eq c8 (iv_lit (lo := 0) (hi := 0) 0 (by decide) (by decide))
    refine lv_aload_n E.1 E.2.1 dX8_join_13 rfl (lv_at hl 0 rfl) ?_
    refine t_get E G 8 4 (at_ro (i := 0) ap0 (by decide) : ro p0 = 8) (C := RX8) (T := TX8) (N := 10) rfl (by decide) (by decide) (by decide) mw_fl_8_24 (v := .ref (ad (p0 + 1))) (fvl_o (n := 1) rfl) dX8_join_14 ?_
    refine lv_iload_n E.1 E.2.1 dX8_join_17 rfl (lv_at hl 1 rfl) ?_
    refine lv_dup2_11 E.1 E.2.1 dX8_join_18 rfl rfl ?_
    refine t_iald E G 24 (at_ro (i := 1) ap0 (by decide) : ro (p0 + 1) = 24) (by decide) (by decide) rfl (n := 8) rfl (iv_vp bx1 (by decide) (by decide)) dX8_join_19 ?_
    refine m_ci v1 e2.symm ?_
    refine lv_iconst (v := 1) E.1 E.2.1 dX8_join_20 (by decide) ?_
    refine lv_iload_n E.1 E.2.1 dX8_join_21 rfl (lv_at hl 2 rfl) ?_
    refine lv_ishl E.1 E.2.1 dX8_join_22 ?_
    refine lv_topi (fun v11 e12 => ?_)
    have b13 : iv 1 256 v11 := by rw [e12]; exact iv_shl8 (iv_mono bx2 (by decide) (by decide))
    refine lv_ior E.1 E.2.1 dX8_join_23 ?_
    refine lv_topi (fun v14 e15 => ?_)
    refine t_iast E G 24 (at_ro (i := 1) ap0 (by decide) : ro (p0 + 1) = 24) (by decide) (by decide) rfl (n := 8) rfl (iv_vp bx1 (by decide) (by decide)) dX8_join_24 (fun H locs G => ?_)
    obtain ⟨zz16, G, oo17, kk18⟩ : ∃ u : TS, mG D A s H locs (wd K ad u) ∧ Ok u ∧ KC z u := ⟨_, G, ok_uc o 24 (at_ro (i := 1) ap0 (by decide) : ro (p0 + 1) = 24) (by decide) (iv_mono (iv_full v14) (by decide) (by decide)) (by decide), KC.tr KC.rf (KC_r 24 (at_ro (i := 1) ap0 (by decide) : ro (p0 + 1) = 24) (by decide))⟩
    refine lv_aload_n E.1 E.2.1 dX8_join_25 rfl (lv_at hl 0 rfl) ?_
    refine t_get E G 8 4 (at_ro (i := 0) ap0 (by decide) : ro p0 = 8) (C := RX8) (T := TX8) (N := 10) rfl (by decide) (by decide) (by decide) mw_fl_8_24 (v := .ref (ad (p0 + 1))) (fvl_o (n := 1) rfl) dX8_join_26 ?_
    refine lv_iload_n E.1 E.2.1 dX8_join_29 rfl (lv_at hl 2 rfl) ?_
    refine lv_dup2_11 E.1 E.2.1 dX8_join_30 rfl rfl ?_
    refine t_iald E G 24 (at_ro (i := 1) ap0 (by decide) : ro (p0 + 1) = 24) (by decide) (by decide) rfl (n := 8) rfl (iv_vp bx2 (by decide) (by decide)) dX8_join_31 ?_
    refine lv_topi (fun v19 e20 => ?_)
    refine lv_iconst (v := 1) E.1 E.2.1 dX8_join_32 (by decide) ?_
    refine lv_iload_n E.1 E.2.1 dX8_join_33 rfl (lv_at hl 1 rfl) ?_
    refine lv_ishl E.1 E.2.1 dX8_join_34 ?_
    refine lv_topi (fun v21 e22 => ?_)
    have b23 : iv 1 256 v21 := by rw [e22]; exact iv_shl8 (iv_mono bx1 (by decide) (by decide))
    refine lv_ior E.1 E.2.1 dX8_join_35 ?_
    refine lv_topi (fun v24 e25 => ?_)
    refine t_iast E G 24 (at_ro (i := 1) ap0 (by decide) : ro (p0 + 1) = 24) (by decide) (by decide) rfl (n := 8) rfl (iv_vp bx2 (by decide) (by decide)) dX8_join_36 (fun H locs G => ?_)
    obtain ⟨zz26, G, oo27, kk28⟩ : ∃ u : TS, mG D A s H locs (wd K ad u) ∧ Ok u ∧ KC z u := ⟨_, G, ok_uc oo17 24 (at_ro (i := 1) ap0 (by decide) : ro (p0 + 1) = 24) (by decide) (iv_mono (iv_full v24) (by decide) (by decide)) (by decide), KC.tr kk18 (KC_r 24 (at_ro (i := 1) ap0 (by decide) : ro (p0 + 1) = 24) (by decide))⟩
    refine lv_aload_n E.1 E.2.1 dX8_join_37 rfl (lv_at hl 0 rfl) ?_
    refine lv_dup E.1 E.2.1 dX8_join_38 rfl ?_
    refine t_get E G 8 1 (at_ro (i := 0) ap0 (by decide) : ro p0 = 8) (C := RX8) (T := TX8) (N := 10) rfl (by decide) (by decide) (by decide) mw_fl_8_15 (fvl_i rfl) dX8_join_39 ?_
    refine lv_topi (fun v29 e30 => ?_)
    refine lv_iconst (v := 1) E.1 E.2.1 dX8_join_42 (by decide) ?_
    refine lv_iadd E.1 E.2.1 dX8_join_43 ?_
    refine lv_topi (fun v31 e32 => ?_)
    refine t_puti E G 8 1 (at_ro (i := 0) ap0 (by decide) : ro p0 = 8) (C := RX8) (T := TX8) (N := 10) rfl (by decide) (by decide) (by decide) rfl rfl mw_fl_8_15 rfl dX8_join_44 (fun H locs G => ?_)
    obtain ⟨zz33, G, oo34, kk35, h36⟩ : ∃ u : TS, mG D A s H locs (wd K ad u) ∧ Ok u ∧ KC z u ∧ tI u p0 1 = v31 := ⟨_, G, ok_i oo27 8 (at_ro (i := 0) ap0 (by decide) : ro p0 = 8) (iv_mono (iv_full v31) (by decide) (by decide)) (by decide), KC.tr kk28 (KC_i 8 (at_ro (i := 0) ap0 (by decide) : ro p0 = 8) (by decide)), sI_self⟩
    exact RET G ⟨oo34, kk35⟩ dX8_join_47
set_option maxHeartbeats 4000000 in
set_option maxRecDepth 100000 in
theorem t_waysHome (l : Launch) (D : va_G) (K : Nat → ClassId) (ad : Nat → Nat) (z : TS) (o : Ok z) (p0 : Nat) (ap0 : at_ 8 p0 = true) (x1 : Int32) (bx1 : iv 0 4 x1) (x2 : Int32) (bx2 : iv 0 7 x2) : cI l yX8_waysHome cX8_waysHome 3 .int ({ frames := 0, cells := 0, slots := 0, locals := 0 }) D K ad z [.ref (ad p0), .int x1, .int x2] (fun r u => u = z) := by
  refine t_enterI (by decide) (Nat.le_of_ble_eq_true rfl) rfl rfl ?_
  intro p e s m args below meth c A R Q H locs ls E hfr hlo RET G hl
  have E : mE p s m meth c cX8_waysHome args 3 RX8 D K A := E
  have hl : lv_has ls 3 [(0, .ref (ad p0)), (1, .int x1), (2, .int x2)] := hl
  refine lv_aload_n E.1 E.2.1 dX8_waysHome_0 rfl (lv_at hl 0 rfl) ?_
  refine t_get E G 8 9 (at_ro (i := 0) ap0 (by decide) : ro p0 = 8) (C := RX8) (T := TX8) (N := 10) rfl (by decide) (by decide) (by decide) mw_fl_8_44 (v := .ref (ad (p0 + 12))) (fvl_o (n := 12) rfl) dX8_waysHome_1 ?_
  refine lv_iload_n E.1 E.2.1 dX8_waysHome_4 rfl (lv_at hl 2 rfl) ?_
  refine lv_bipush (v := 8) E.1 E.2.1 dX8_waysHome_5 (by decide) ?_
  refine lv_imul E.1 E.2.1 dX8_waysHome_7 ?_
  refine lv_topi (fun v1 e2 => ?_)
  have b3 : iv 0 56 v1 := by rw [e2]; exact iv_mulc bx2 8 (by decide) (by decide) (by decide) (by decide) (by decide) (by decide)
  refine lv_aload_n E.1 E.2.1 dX8_waysHome_8 rfl (lv_at hl 0 rfl) ?_
  refine t_get E G 8 7 (at_ro (i := 0) ap0 (by decide) : ro p0 = 8) (C := RX8) (T := TX8) (N := 10) rfl (by decide) (by decide) (by decide) mw_fl_8_34 (v := .ref (ad (p0 + 4))) (fvl_o (n := 4) rfl) dX8_waysHome_9 ?_
  refine lv_iload_n E.1 E.2.1 dX8_waysHome_12 rfl (lv_at hl 1 rfl) ?_
  refine t_iald E G 25 (at_ro (i := 4) ap0 (by decide) : ro (p0 + 4) = 25) (by decide) (by decide) rfl (n := 5) rfl (iv_vp bx1 (by decide) (by decide)) dX8_waysHome_13 ?_
  refine lv_topi (fun v4 e5 => ?_)
  have b6 : iv 0 7 v4 := by rw [e5]; exact o.ac 25 (at_ro (i := 4) ap0 (by decide) : ro (p0 + 4) = 25) (by decide) _
  refine lv_iadd E.1 E.2.1 dX8_waysHome_14 ?_
  refine lv_topi (fun v7 e8 => ?_)
  have b9 : iv 0 63 v7 := by rw [e8]; exact iv_add b3 b6 (by decide) (by decide) (by decide) (by decide)
  refine t_iald E G 26 (at_ro (i := 12) ap0 (by decide) : ro (p0 + 12) = 26) (by decide) (by decide) rfl (n := 64) rfl (iv_vp b9 (by decide) (by decide)) dX8_waysHome_15 ?_
  refine lv_topi (fun v10 e11 => ?_)
  exact RET G rfl rfl dX8_waysHome_16
set_option maxHeartbeats 4000000 in
set_option maxRecDepth 100000 in
theorem t_wouldHave (l : Launch) (D : va_G) (K : Nat → ClassId) (ad : Nat → Nat) (z : TS) (o : Ok z) (p0 : Nat) (ap0 : at_ 8 p0 = true) (p1 : Nat) (ap1 : at_ 6 p1 = true) (x1 : Int32) (bx1 : iv 0 5 x1) (x2 : Int32) (bx2 : iv 0 4 x2) : cI l yX8_wouldHave cX8_wouldHave 4 .boolean ({ frames := 0, cells := 0, slots := 0, locals := 0 }) D K ad z [.ref (ad p0), .ref (ad p1), .int x1, .int x2] (fun r u => u = z ∧ iv 0 1 r) := by
  refine t_enterI (by decide) (Nat.le_of_ble_eq_true rfl) rfl rfl ?_
  intro p e s m args below meth c A R Q H locs ls E hfr hlo RET G hl
  have E : mE p s m meth c cX8_wouldHave args 4 RX8 D K A := E
  have hl : lv_has ls 4 [(0, .ref (ad p0)), (1, .ref (ad p1)), (2, .int x1), (3, .int x2)] := hl
  refine lv_aload_n E.1 E.2.1 dX8_wouldHave_0 rfl (lv_at hl 1 rfl) ?_
  refine t_get E G 6 6 (at_ro (i := 0) ap1 (by decide) : ro p1 = 6) (C := RX6) (T := TX6) (N := 8) rfl (by decide) (by decide) (by decide) mw_fl_8_47 (fvl_i rfl) dX8_wouldHave_1 ?_
  refine lv_topi (fun v1 e2 => ?_)
  refine lv_iload_n E.1 E.2.1 dX8_wouldHave_4 rfl (lv_at hl 2 rfl) ?_
  refine lv_ishr E.1 E.2.1 dX8_wouldHave_5 ?_
  refine lv_topi (fun v3 e4 => ?_)
  refine lv_iconst (v := 1) E.1 E.2.1 dX8_wouldHave_6 (by decide) ?_
  refine lv_iand E.1 E.2.1 dX8_wouldHave_7 ?_
  refine lv_topi (fun v5 e6 => ?_)
  have b7 : iv 0 1 v5 := by rw [e6]; exact iv_and (iv_lit (lo := 1) (hi := 1) 1 (by decide) (by decide)) (by decide)
  refine lv_if_eq (tgt := 45) E.1 E.2.1 dX8_wouldHave_8 (by decide) (fun c8 => ?_) (fun c8 => ?_)
  · skip
    have b9 : iv 0 0 v5 := iv_eq c8 (iv_lit (lo := 0) (hi := 0) 0 (by decide) (by decide))
    refine lv_iconst (v := 0) E.1 E.2.1 dX8_wouldHave_45 (by decide) ?_
    exact RET G ⟨rfl, (iv_mono (iv_lit (lo := 0) (hi := 0) 0 (by decide) (by decide)) (by decide) (by decide))⟩ (by decide) dX8_wouldHave_46
  · skip
    have b10 : iv 1 1 v5 := ne_lo c8 b7 (by decide) (by decide)
    refine lv_aload_n E.1 E.2.1 dX8_wouldHave_11 rfl (lv_at hl 1 rfl) ?_
    refine t_get E G 6 5 (at_ro (i := 0) ap1 (by decide) : ro p1 = 6) (C := RX6) (T := TX6) (N := 8) rfl (by decide) (by decide) (by decide) mw_fl_8_63 (v := .ref (ad (p1 + 6))) (fvl_o (n := 6) rfl) dX8_wouldHave_12 ?_
    refine lv_iload_n E.1 E.2.1 dX8_wouldHave_15 rfl (lv_at hl 2 rfl) ?_
    refine t_iald E G 23 (at_ro (i := 6) ap1 (by decide) : ro (p1 + 6) = 23) (by decide) (by decide) rfl (n := 6) rfl (iv_vp bx1 (by decide) (by decide)) dX8_wouldHave_16 ?_
    refine lv_topi (fun v11 e12 => ?_)
    refine lv_aload_n E.1 E.2.1 dX8_wouldHave_17 rfl (lv_at hl 1 rfl) ?_
    refine t_get E G 6 1 (at_ro (i := 0) ap1 (by decide) : ro p1 = 6) (C := RX6) (T := TX6) (N := 8) rfl (by decide) (by decide) (by decide) mw_fl_8_73 (v := .ref (ad (p1 + 2))) (fvl_o (n := 2) rfl) dX8_wouldHave_18 ?_
    refine lv_iload_n E.1 E.2.1 dX8_wouldHave_21 rfl (lv_at hl 3 rfl) ?_
    refine t_iald E G 22 (at_ro (i := 2) ap1 (by decide) : ro (p1 + 2) = 22) (by decide) (by decide) rfl (n := 5) rfl (iv_vp bx2 (by decide) (by decide)) dX8_wouldHave_22 ?_
    refine lv_topi (fun v13 e14 => ?_)
    refine lv_icmp_ne (tgt := 45) E.1 E.2.1 dX8_wouldHave_23 (by decide) (fun c15 => ?_) (fun c15 => ?_)
    · skip
      refine lv_iconst (v := 0) E.1 E.2.1 dX8_wouldHave_45 (by decide) ?_
      exact RET G ⟨rfl, (iv_mono (iv_lit (lo := 0) (hi := 0) 0 (by decide) (by decide)) (by decide) (by decide))⟩ (by decide) dX8_wouldHave_46
    · skip
      refine lv_aload_n E.1 E.2.1 dX8_wouldHave_26 rfl (lv_at hl 0 rfl) ?_
      refine t_get E G 8 5 (at_ro (i := 0) ap0 (by decide) : ro p0 = 8) (C := RX8) (T := TX8) (N := 10) rfl (by decide) (by decide) (by decide) mw_fl_8_28 (v := .ref (ad (p0 + 2))) (fvl_o (n := 2) rfl) dX8_wouldHave_27 ?_
      refine lv_iload_n E.1 E.2.1 dX8_wouldHave_30 rfl (lv_at hl 2 rfl) ?_
      refine t_iald E G 23 (at_ro (i := 2) ap0 (by decide) : ro (p0 + 2) = 23) (by decide) (by decide) rfl (n := 6) rfl (iv_vp bx1 (by decide) (by decide)) dX8_wouldHave_31 ?_
      refine lv_topi (fun v16 e17 => ?_)
      refine lv_aload_n E.1 E.2.1 dX8_wouldHave_32 rfl (lv_at hl 1 rfl) ?_
      refine t_get E G 6 2 (at_ro (i := 0) ap1 (by decide) : ro p1 = 6) (C := RX6) (T := TX6) (N := 8) rfl (by decide) (by decide) (by decide) mw_fl_8_76 (v := .ref (ad (p1 + 3))) (fvl_o (n := 3) rfl) dX8_wouldHave_33 ?_
      refine lv_iload_n E.1 E.2.1 dX8_wouldHave_36 rfl (lv_at hl 3 rfl) ?_
      refine t_iald E G 22 (at_ro (i := 3) ap1 (by decide) : ro (p1 + 3) = 22) (by decide) (by decide) rfl (n := 5) rfl (iv_vp bx2 (by decide) (by decide)) dX8_wouldHave_37 ?_
      refine lv_topi (fun v18 e19 => ?_)
      refine lv_icmp_le (tgt := 45) E.1 E.2.1 dX8_wouldHave_38 (by decide) (fun c20 => ?_) (fun c20 => ?_)
      · skip
        refine lv_iconst (v := 0) E.1 E.2.1 dX8_wouldHave_45 (by decide) ?_
        exact RET G ⟨rfl, (iv_mono (iv_lit (lo := 0) (hi := 0) 0 (by decide) (by decide)) (by decide) (by decide))⟩ (by decide) dX8_wouldHave_46
      · skip
        have b21 : iv (-2147483648) 2147483646 v18 := lt_l (Int32.not_le.mp c20) (iv_full v18) (iv_full v16) (by decide)
        have b22 : iv (-2147483647) 2147483647 v16 := lt_r (Int32.not_le.mp c20) (iv_full v18) (iv_full v16) (by decide)
        refine lv_iconst (v := 1) E.1 E.2.1 dX8_wouldHave_41 (by decide) ?_
        refine lv_goto (tgt := 46) E.1 E.2.1 dX8_wouldHave_42 (by decide) ?_
        exact RET G ⟨rfl, (iv_mono (iv_lit (lo := 1) (hi := 1) 1 (by decide) (by decide)) (by decide) (by decide))⟩ (by decide) dX8_wouldHave_46
