theorem mw_code_X10_notesAreSo : (Cond.code yX10_notesAreSo cX10_notesAreSo 5 (some .boolean) : Cond) ∈ cw := cw_of (List.mem_append_right _ (List.mem_append_right _ (List.mem_append_right _ (List.mem_append_right _ (List.mem_append_right _ (List.mem_append_left _ (List.mem_of_getElem? (i := 51) rfl))))))) (by decide +kernel)
theorem mw_code_X1_gainOf : (Cond.code yX1_gainOf cX1_gainOf 3 (some .int) : Cond) ∈ cw := cw_of (List.mem_append_right _ (List.mem_append_right _ (List.mem_append_right _ (List.mem_append_right _ (List.mem_append_right _ (List.mem_append_left _ (List.mem_of_getElem? (i := 23) rfl))))))) (by decide +kernel)
theorem mw_fl_10_124 : (Cond.fieldLink RX10 124 "LureTown$Town" "told" "LLureTown$State;" : Cond) ∈ cw := cw_of (List.mem_append_right _ (List.mem_append_left _ (List.mem_of_getElem? (i := 159) (by decide +kernel)))) (by decide +kernel)
theorem mw_fl_10_83 : (Cond.fieldLink RX10 83 "LureTown" "altered" "LLureTown$State;" : Cond) ∈ cw := cw_of (List.mem_append_right _ (List.mem_append_right _ (List.mem_append_left _ (List.mem_of_getElem? (i := 140) (by decide +kernel))))) (by decide +kernel)
theorem mw_inst_X10_notesAreSo : (Cond.instanceMethod yX10_notesAreSo : Cond) ∈ cw := cw_of (List.mem_append_right _ (List.mem_append_right _ (List.mem_append_right _ (List.mem_append_right _ (List.mem_append_right _ (List.mem_append_left _ (List.mem_of_getElem? (i := 50) (by decide +kernel)))))))) (by decide +kernel)
theorem mw_inst_X1_gainOf : (Cond.instanceMethod yX1_gainOf : Cond) ∈ cw := cw_of (List.mem_append_right _ (List.mem_append_right _ (List.mem_append_right _ (List.mem_append_right _ (List.mem_append_right _ (List.mem_append_left _ (List.mem_of_getElem? (i := 21) (by decide +kernel)))))))) (by decide +kernel)
theorem mw_ml_10_311 : (Cond.methodLink RX10 311 yX1_gainOf : Cond) ∈ cw := cw_of (List.mem_append_right _ (List.mem_append_right _ (List.mem_append_right _ (List.mem_append_right _ (List.mem_append_right _ (List.mem_append_left _ (List.mem_of_getElem? (i := 20) (by decide +kernel)))))))) (by decide +kernel)
theorem mw_ml_10_322 : (Cond.methodLink RX10 322 yX10_notesAreSo : Cond) ∈ cw := cw_of (List.mem_append_right _ (List.mem_append_right _ (List.mem_append_right _ (List.mem_append_right _ (List.mem_append_right _ (List.mem_append_left _ (List.mem_of_getElem? (i := 48) (by decide +kernel)))))))) (by decide +kernel)
theorem mw_sel_X10_notesAreSo : (Cond.selects RX10 yX10_notesAreSo yX10_notesAreSo : Cond) ∈ cw := cw_of (List.mem_append_left _ (List.mem_of_getElem? (i := 44) (by decide +kernel))) (by decide +kernel)
theorem mw_sel_X1_gainOf : (Cond.selects RX1 yX1_gainOf yX1_gainOf : Cond) ∈ cw := cw_of (List.mem_append_right _ (List.mem_append_right _ (List.mem_append_right _ (List.mem_append_right _ (List.mem_append_right _ (List.mem_append_left _ (List.mem_of_getElem? (i := 22) (by decide +kernel)))))))) (by decide +kernel)
theorem dX10_bestOf_0 : decode cX10_bestOf 0 = .ok (.aload_n 0, 1) := by decide +kernel
theorem dX10_bestOf_1 : decode cX10_bestOf 1 = .ok (.getfield 83, 3) := by decide +kernel
theorem dX10_bestOf_4 : decode cX10_bestOf 4 = .ok (.aload_n 0, 1) := by decide +kernel
theorem dX10_bestOf_5 : decode cX10_bestOf 5 = .ok (.getfield 55, 3) := by decide +kernel
theorem dX10_bestOf_8 : decode cX10_bestOf 8 = .ok (.getfield 121, 3) := by decide +kernel
theorem dX10_bestOf_11 : decode cX10_bestOf 11 = .ok (.invokevirtual 127, 3) := by decide +kernel
theorem dX10_bestOf_14 : decode cX10_bestOf 14 = .ok (.iconst (-1), 1) := by decide +kernel
theorem dX10_bestOf_15 : decode cX10_bestOf 15 = .ok (.istore 6, 2) := by decide +kernel
theorem dX10_bestOf_17 : decode cX10_bestOf 17 = .ok (.iconst (-1), 1) := by decide +kernel
theorem dX10_bestOf_18 : decode cX10_bestOf 18 = .ok (.istore 7, 2) := by decide +kernel
theorem dX10_bestOf_20 : decode cX10_bestOf 20 = .ok (.iconst (-1), 1) := by decide +kernel
theorem dX10_bestOf_21 : decode cX10_bestOf 21 = .ok (.istore 8, 2) := by decide +kernel
theorem dX10_bestOf_23 : decode cX10_bestOf 23 = .ok (.iload 8, 2) := by decide +kernel
theorem dX10_bestOf_25 : decode cX10_bestOf 25 = .ok (.iload_n 2, 1) := by decide +kernel
theorem dX10_bestOf_26 : decode cX10_bestOf 26 = .ok (.if_icmp .ge 89, 3) := by decide +kernel
theorem dX10_bestOf_29 : decode cX10_bestOf 29 = .ok (.iload 8, 2) := by decide +kernel
theorem dX10_bestOf_31 : decode cX10_bestOf 31 = .ok (.iconst (-1), 1) := by decide +kernel
theorem dX10_bestOf_32 : decode cX10_bestOf 32 = .ok (.if_icmp .eq 8, 3) := by decide +kernel
theorem dX10_bestOf_35 : decode cX10_bestOf 35 = .ok (.aload_n 1, 1) := by decide +kernel
theorem dX10_bestOf_36 : decode cX10_bestOf 36 = .ok (.iload_n 3, 1) := by decide +kernel
theorem dX10_bestOf_37 : decode cX10_bestOf 37 = .ok (.iload 8, 2) := by decide +kernel
theorem dX10_bestOf_39 : decode cX10_bestOf 39 = .ok (.iastore, 1) := by decide +kernel
theorem dX10_bestOf_40 : decode cX10_bestOf 40 = .ok (.aload_n 0, 1) := by decide +kernel
theorem dX10_bestOf_41 : decode cX10_bestOf 41 = .ok (.getfield 76, 3) := by decide +kernel
theorem dX10_bestOf_44 : decode cX10_bestOf 44 = .ok (.aload_n 0, 1) := by decide +kernel
theorem dX10_bestOf_45 : decode cX10_bestOf 45 = .ok (.getfield 55, 3) := by decide +kernel
theorem dX10_bestOf_48 : decode cX10_bestOf 48 = .ok (.getfield 114, 3) := by decide +kernel
theorem dX10_bestOf_51 : decode cX10_bestOf 51 = .ok (.aload_n 0, 1) := by decide +kernel
theorem dX10_bestOf_52 : decode cX10_bestOf 52 = .ok (.invokevirtual 296, 3) := by decide +kernel
theorem dX10_bestOf_55 : decode cX10_bestOf 55 = .ok (.aload_n 0, 1) := by decide +kernel
theorem dX10_bestOf_56 : decode cX10_bestOf 56 = .ok (.getfield 83, 3) := by decide +kernel
theorem dX10_bestOf_59 : decode cX10_bestOf 59 = .ok (.invokevirtual 299, 3) := by decide +kernel
theorem dX10_bestOf_62 : decode cX10_bestOf 62 = .ok (.aload_n 0, 1) := by decide +kernel
theorem dX10_bestOf_63 : decode cX10_bestOf 63 = .ok (.getfield 76, 3) := by decide +kernel
theorem dX10_bestOf_66 : decode cX10_bestOf 66 = .ok (.iload 4, 2) := by decide +kernel
theorem dX10_bestOf_68 : decode cX10_bestOf 68 = .ok (.invokevirtual 242, 3) := by decide +kernel
theorem dX10_bestOf_71 : decode cX10_bestOf 71 = .ok (.aload_n 0, 1) := by decide +kernel
theorem dX10_bestOf_72 : decode cX10_bestOf 72 = .ok (.getfield 76, 3) := by decide +kernel
theorem dX10_bestOf_75 : decode cX10_bestOf 75 = .ok (.getfield 232, 3) := by decide +kernel
theorem dX10_bestOf_78 : decode cX10_bestOf 78 = .ok (.aload_n 0, 1) := by decide +kernel
theorem dX10_bestOf_79 : decode cX10_bestOf 79 = .ok (.getfield 55, 3) := by decide +kernel
theorem dX10_bestOf_82 : decode cX10_bestOf 82 = .ok (.getfield 114, 3) := by decide +kernel
theorem dX10_bestOf_85 : decode cX10_bestOf 85 = .ok (.getfield 140, 3) := by decide +kernel
theorem dX10_bestOf_88 : decode cX10_bestOf 88 = .ok (.invokevirtual 211, 3) := by decide +kernel
theorem dX10_bestOf_91 : decode cX10_bestOf 91 = .ok (.istore 9, 2) := by decide +kernel
theorem dX10_bestOf_93 : decode cX10_bestOf 93 = .ok (.iload 9, 2) := by decide +kernel
theorem dX10_bestOf_95 : decode cX10_bestOf 95 = .ok (.iload 7, 2) := by decide +kernel
theorem dX10_bestOf_97 : decode cX10_bestOf 97 = .ok (.if_icmp .le 12, 3) := by decide +kernel
theorem dX10_bestOf_100 : decode cX10_bestOf 100 = .ok (.iload 9, 2) := by decide +kernel
theorem dX10_bestOf_102 : decode cX10_bestOf 102 = .ok (.istore 7, 2) := by decide +kernel
theorem dX10_bestOf_104 : decode cX10_bestOf 104 = .ok (.aload_n 1, 1) := by decide +kernel
theorem dX10_bestOf_105 : decode cX10_bestOf 105 = .ok (.iload_n 3, 1) := by decide +kernel
theorem dX10_bestOf_106 : decode cX10_bestOf 106 = .ok (.iaload, 1) := by decide +kernel
theorem dX10_bestOf_107 : decode cX10_bestOf 107 = .ok (.istore 6, 2) := by decide +kernel
theorem dX10_bestOf_109 : decode cX10_bestOf 109 = .ok (.iinc 8 1, 3) := by decide +kernel
theorem dX10_bestOf_112 : decode cX10_bestOf 112 = .ok (.goto (-89), 3) := by decide +kernel
theorem dX10_bestOf_115 : decode cX10_bestOf 115 = .ok (.iload 5, 2) := by decide +kernel
theorem dX10_bestOf_117 : decode cX10_bestOf 117 = .ok (.ifCond .ne 8, 3) := by decide +kernel
theorem dX10_bestOf_120 : decode cX10_bestOf 120 = .ok (.iload 6, 2) := by decide +kernel
theorem dX10_bestOf_122 : decode cX10_bestOf 122 = .ok (.goto 5, 3) := by decide +kernel
theorem dX10_bestOf_125 : decode cX10_bestOf 125 = .ok (.iload 7, 2) := by decide +kernel
theorem dX10_bestOf_127 : decode cX10_bestOf 127 = .ok (.ireturn, 1) := by decide +kernel
theorem dX10_choicesThatAreSo_0 : decode cX10_choicesThatAreSo 0 = .ok (.iconst 0, 1) := by decide +kernel
theorem dX10_choicesThatAreSo_1 : decode cX10_choicesThatAreSo 1 = .ok (.istore 4, 2) := by decide +kernel
theorem dX10_choicesThatAreSo_3 : decode cX10_choicesThatAreSo 3 = .ok (.aload_n 0, 1) := by decide +kernel
theorem dX10_choicesThatAreSo_4 : decode cX10_choicesThatAreSo 4 = .ok (.getfield 83, 3) := by decide +kernel
theorem dX10_choicesThatAreSo_7 : decode cX10_choicesThatAreSo 7 = .ok (.aload_n 0, 1) := by decide +kernel
theorem dX10_choicesThatAreSo_8 : decode cX10_choicesThatAreSo 8 = .ok (.getfield 55, 3) := by decide +kernel
theorem dX10_choicesThatAreSo_11 : decode cX10_choicesThatAreSo 11 = .ok (.getfield 114, 3) := by decide +kernel
theorem dX10_choicesThatAreSo_14 : decode cX10_choicesThatAreSo 14 = .ok (.getfield 124, 3) := by decide +kernel
theorem dX10_choicesThatAreSo_17 : decode cX10_choicesThatAreSo 17 = .ok (.invokevirtual 127, 3) := by decide +kernel
theorem dX10_choicesThatAreSo_20 : decode cX10_choicesThatAreSo 20 = .ok (.iconst 0, 1) := by decide +kernel
theorem dX10_choicesThatAreSo_21 : decode cX10_choicesThatAreSo 21 = .ok (.istore 5, 2) := by decide +kernel
theorem dX10_choicesThatAreSo_23 : decode cX10_choicesThatAreSo 23 = .ok (.iload 5, 2) := by decide +kernel
theorem dX10_choicesThatAreSo_25 : decode cX10_choicesThatAreSo 25 = .ok (.iload_n 2, 1) := by decide +kernel
theorem dX10_choicesThatAreSo_26 : decode cX10_choicesThatAreSo 26 = .ok (.if_icmp .ge 38, 3) := by decide +kernel
theorem dX10_choicesThatAreSo_29 : decode cX10_choicesThatAreSo 29 = .ok (.aload_n 1, 1) := by decide +kernel
theorem dX10_choicesThatAreSo_30 : decode cX10_choicesThatAreSo 30 = .ok (.iload_n 3, 1) := by decide +kernel
theorem dX10_choicesThatAreSo_31 : decode cX10_choicesThatAreSo 31 = .ok (.iload 5, 2) := by decide +kernel
theorem dX10_choicesThatAreSo_33 : decode cX10_choicesThatAreSo 33 = .ok (.iastore, 1) := by decide +kernel
theorem dX10_choicesThatAreSo_34 : decode cX10_choicesThatAreSo 34 = .ok (.aload_n 0, 1) := by decide +kernel
theorem dX10_choicesThatAreSo_35 : decode cX10_choicesThatAreSo 35 = .ok (.aload_n 0, 1) := by decide +kernel
theorem dX10_choicesThatAreSo_36 : decode cX10_choicesThatAreSo 36 = .ok (.invokevirtual 296, 3) := by decide +kernel
theorem dX10_choicesThatAreSo_39 : decode cX10_choicesThatAreSo 39 = .ok (.aload_n 0, 1) := by decide +kernel
theorem dX10_choicesThatAreSo_40 : decode cX10_choicesThatAreSo 40 = .ok (.getfield 83, 3) := by decide +kernel
theorem dX10_choicesThatAreSo_43 : decode cX10_choicesThatAreSo 43 = .ok (.invokevirtual 322, 3) := by decide +kernel
theorem dX10_choicesThatAreSo_46 : decode cX10_choicesThatAreSo 46 = .ok (.ifCond .eq 12, 3) := by decide +kernel
theorem dX10_choicesThatAreSo_49 : decode cX10_choicesThatAreSo 49 = .ok (.iload 4, 2) := by decide +kernel
theorem dX10_choicesThatAreSo_51 : decode cX10_choicesThatAreSo 51 = .ok (.iconst 1, 1) := by decide +kernel
theorem dX10_choicesThatAreSo_52 : decode cX10_choicesThatAreSo 52 = .ok (.iload 5, 2) := by decide +kernel
theorem dX10_choicesThatAreSo_54 : decode cX10_choicesThatAreSo 54 = .ok (.ishl, 1) := by decide +kernel
theorem dX10_choicesThatAreSo_55 : decode cX10_choicesThatAreSo 55 = .ok (.ior, 1) := by decide +kernel
theorem dX10_choicesThatAreSo_56 : decode cX10_choicesThatAreSo 56 = .ok (.istore 4, 2) := by decide +kernel
theorem dX10_choicesThatAreSo_58 : decode cX10_choicesThatAreSo 58 = .ok (.iinc 5 1, 3) := by decide +kernel
theorem dX10_choicesThatAreSo_61 : decode cX10_choicesThatAreSo 61 = .ok (.goto (-38), 3) := by decide +kernel
theorem dX10_choicesThatAreSo_64 : decode cX10_choicesThatAreSo 64 = .ok (.iload 4, 2) := by decide +kernel
theorem dX10_choicesThatAreSo_66 : decode cX10_choicesThatAreSo 66 = .ok (.ireturn, 1) := by decide +kernel
theorem dX10_tallyRules_0 : decode cX10_tallyRules 0 = .ok (.iconst 0, 1) := by decide +kernel
theorem dX10_tallyRules_1 : decode cX10_tallyRules 1 = .ok (.istore_n 2, 1) := by decide +kernel
theorem dX10_tallyRules_2 : decode cX10_tallyRules 2 = .ok (.iload_n 2, 1) := by decide +kernel
theorem dX10_tallyRules_3 : decode cX10_tallyRules 3 = .ok (.aload_n 0, 1) := by decide +kernel
theorem dX10_tallyRules_4 : decode cX10_tallyRules 4 = .ok (.getfield 87, 3) := by decide +kernel
theorem dX10_tallyRules_7 : decode cX10_tallyRules 7 = .ok (.arraylength, 1) := by decide +kernel
theorem dX10_tallyRules_8 : decode cX10_tallyRules 8 = .ok (.if_icmp .ge 16, 3) := by decide +kernel
theorem dX10_tallyRules_11 : decode cX10_tallyRules 11 = .ok (.aload_n 0, 1) := by decide +kernel
theorem dX10_tallyRules_12 : decode cX10_tallyRules 12 = .ok (.getfield 87, 3) := by decide +kernel
theorem dX10_tallyRules_15 : decode cX10_tallyRules 15 = .ok (.iload_n 2, 1) := by decide +kernel
theorem dX10_tallyRules_16 : decode cX10_tallyRules 16 = .ok (.iconst 0, 1) := by decide +kernel
theorem dX10_tallyRules_17 : decode cX10_tallyRules 17 = .ok (.iastore, 1) := by decide +kernel
theorem dX10_tallyRules_18 : decode cX10_tallyRules 18 = .ok (.iinc 2 1, 3) := by decide +kernel
theorem dX10_tallyRules_21 : decode cX10_tallyRules 21 = .ok (.goto (-19), 3) := by decide +kernel
theorem dX10_tallyRules_24 : decode cX10_tallyRules 24 = .ok (.iconst 0, 1) := by decide +kernel
theorem dX10_tallyRules_25 : decode cX10_tallyRules 25 = .ok (.istore_n 2, 1) := by decide +kernel
theorem dX10_tallyRules_26 : decode cX10_tallyRules 26 = .ok (.iconst (-1), 1) := by decide +kernel
theorem dX10_tallyRules_27 : decode cX10_tallyRules 27 = .ok (.istore_n 3, 1) := by decide +kernel
theorem dX10_tallyRules_28 : decode cX10_tallyRules 28 = .ok (.iload_n 3, 1) := by decide +kernel
theorem dX10_tallyRules_29 : decode cX10_tallyRules 29 = .ok (.aload_n 0, 1) := by decide +kernel
theorem dX10_tallyRules_30 : decode cX10_tallyRules 30 = .ok (.getfield 43, 3) := by decide +kernel
theorem dX10_tallyRules_33 : decode cX10_tallyRules 33 = .ok (.if_icmp .ge 123, 3) := by decide +kernel
theorem dX10_tallyRules_36 : decode cX10_tallyRules 36 = .ok (.aload_n 0, 1) := by decide +kernel
theorem dX10_tallyRules_37 : decode cX10_tallyRules 37 = .ok (.aload_n 0, 1) := by decide +kernel
theorem dX10_tallyRules_38 : decode cX10_tallyRules 38 = .ok (.iload_n 3, 1) := by decide +kernel
theorem dX10_tallyRules_39 : decode cX10_tallyRules 39 = .ok (.invokevirtual 326, 3) := by decide +kernel
theorem dX10_tallyRules_42 : decode cX10_tallyRules 42 = .ok (.aload_n 0, 1) := by decide +kernel
theorem dX10_tallyRules_43 : decode cX10_tallyRules 43 = .ok (.getfield 55, 3) := by decide +kernel
theorem dX10_tallyRules_46 : decode cX10_tallyRules 46 = .ok (.getfield 114, 3) := by decide +kernel
theorem dX10_tallyRules_49 : decode cX10_tallyRules 49 = .ok (.getfield 124, 3) := by decide +kernel
theorem dX10_tallyRules_52 : decode cX10_tallyRules 52 = .ok (.invokevirtual 322, 3) := by decide +kernel
theorem dX10_tallyRules_55 : decode cX10_tallyRules 55 = .ok (.ifCond .eq 95, 3) := by decide +kernel
theorem dX10_tallyRules_58 : decode cX10_tallyRules 58 = .ok (.iinc 2 1, 3) := by decide +kernel
theorem dX10_tallyRules_61 : decode cX10_tallyRules 61 = .ok (.aload_n 0, 1) := by decide +kernel
theorem dX10_tallyRules_62 : decode cX10_tallyRules 62 = .ok (.getfield 76, 3) := by decide +kernel
theorem dX10_tallyRules_65 : decode cX10_tallyRules 65 = .ok (.aload_n 0, 1) := by decide +kernel
theorem dX10_tallyRules_66 : decode cX10_tallyRules 66 = .ok (.getfield 55, 3) := by decide +kernel
theorem dX10_tallyRules_69 : decode cX10_tallyRules 69 = .ok (.getfield 114, 3) := by decide +kernel
theorem dX10_tallyRules_72 : decode cX10_tallyRules 72 = .ok (.aload_n 0, 1) := by decide +kernel
theorem dX10_tallyRules_73 : decode cX10_tallyRules 73 = .ok (.iload_n 3, 1) := by decide +kernel
theorem dX10_tallyRules_74 : decode cX10_tallyRules 74 = .ok (.invokevirtual 326, 3) := by decide +kernel
theorem dX10_tallyRules_77 : decode cX10_tallyRules 77 = .ok (.aload_n 0, 1) := by decide +kernel
theorem dX10_tallyRules_78 : decode cX10_tallyRules 78 = .ok (.getfield 55, 3) := by decide +kernel
theorem dX10_tallyRules_81 : decode cX10_tallyRules 81 = .ok (.getfield 114, 3) := by decide +kernel
theorem dX10_tallyRules_84 : decode cX10_tallyRules 84 = .ok (.getfield 124, 3) := by decide +kernel
theorem dX10_tallyRules_87 : decode cX10_tallyRules 87 = .ok (.invokevirtual 299, 3) := by decide +kernel
theorem dX10_tallyRules_90 : decode cX10_tallyRules 90 = .ok (.aload_n 0, 1) := by decide +kernel
theorem dX10_tallyRules_91 : decode cX10_tallyRules 91 = .ok (.getfield 76, 3) := by decide +kernel
theorem dX10_tallyRules_94 : decode cX10_tallyRules 94 = .ok (.iload_n 1, 1) := by decide +kernel
theorem dX10_tallyRules_95 : decode cX10_tallyRules 95 = .ok (.invokevirtual 242, 3) := by decide +kernel
theorem dX10_tallyRules_98 : decode cX10_tallyRules 98 = .ok (.iconst 0, 1) := by decide +kernel
theorem dX10_tallyRules_99 : decode cX10_tallyRules 99 = .ok (.istore 4, 2) := by decide +kernel
theorem dX10_tallyRules_101 : decode cX10_tallyRules 101 = .ok (.iload 4, 2) := by decide +kernel
theorem dX10_tallyRules_103 : decode cX10_tallyRules 103 = .ok (.aload_n 0, 1) := by decide +kernel
theorem dX10_tallyRules_104 : decode cX10_tallyRules 104 = .ok (.getfield 55, 3) := by decide +kernel
theorem dX10_tallyRules_107 : decode cX10_tallyRules 107 = .ok (.getfield 114, 3) := by decide +kernel
theorem dX10_tallyRules_110 : decode cX10_tallyRules 110 = .ok (.getfield 140, 3) := by decide +kernel
theorem dX10_tallyRules_113 : decode cX10_tallyRules 113 = .ok (.if_icmp .ge 37, 3) := by decide +kernel
theorem dX10_tallyRules_116 : decode cX10_tallyRules 116 = .ok (.aload_n 0, 1) := by decide +kernel
theorem dX10_tallyRules_117 : decode cX10_tallyRules 117 = .ok (.getfield 87, 3) := by decide +kernel
theorem dX10_tallyRules_120 : decode cX10_tallyRules 120 = .ok (.iload 4, 2) := by decide +kernel
theorem dX10_tallyRules_122 : decode cX10_tallyRules 122 = .ok (.bipush 8, 2) := by decide +kernel
theorem dX10_tallyRules_124 : decode cX10_tallyRules 124 = .ok (.imul, 1) := by decide +kernel
theorem dX10_tallyRules_125 : decode cX10_tallyRules 125 = .ok (.aload_n 0, 1) := by decide +kernel
theorem dX10_tallyRules_126 : decode cX10_tallyRules 126 = .ok (.getfield 76, 3) := by decide +kernel
theorem dX10_tallyRules_129 : decode cX10_tallyRules 129 = .ok (.getfield 232, 3) := by decide +kernel
theorem dX10_tallyRules_132 : decode cX10_tallyRules 132 = .ok (.getfield 171, 3) := by decide +kernel
theorem dX10_tallyRules_135 : decode cX10_tallyRules 135 = .ok (.iload 4, 2) := by decide +kernel
theorem dX10_tallyRules_137 : decode cX10_tallyRules 137 = .ok (.iaload, 1) := by decide +kernel
theorem dX10_tallyRules_138 : decode cX10_tallyRules 138 = .ok (.iadd, 1) := by decide +kernel
theorem dX10_tallyRules_139 : decode cX10_tallyRules 139 = .ok (.dup2, 1) := by decide +kernel
theorem dX10_tallyRules_140 : decode cX10_tallyRules 140 = .ok (.iaload, 1) := by decide +kernel
theorem dX10_tallyRules_141 : decode cX10_tallyRules 141 = .ok (.iconst 1, 1) := by decide +kernel
theorem dX10_tallyRules_142 : decode cX10_tallyRules 142 = .ok (.iadd, 1) := by decide +kernel
theorem dX10_tallyRules_143 : decode cX10_tallyRules 143 = .ok (.iastore, 1) := by decide +kernel
theorem dX10_tallyRules_144 : decode cX10_tallyRules 144 = .ok (.iinc 4 1, 3) := by decide +kernel
theorem dX10_tallyRules_147 : decode cX10_tallyRules 147 = .ok (.goto (-46), 3) := by decide +kernel
theorem dX10_tallyRules_150 : decode cX10_tallyRules 150 = .ok (.iinc 3 1, 3) := by decide +kernel
theorem dX10_tallyRules_153 : decode cX10_tallyRules 153 = .ok (.goto (-125), 3) := by decide +kernel
theorem dX10_tallyRules_156 : decode cX10_tallyRules 156 = .ok (.iload_n 2, 1) := by decide +kernel
theorem dX10_tallyRules_157 : decode cX10_tallyRules 157 = .ok (.ireturn, 1) := by decide +kernel
theorem dX10_weighTwos_0 : decode cX10_weighTwos 0 = .ok (.aload_n 0, 1) := by decide +kernel
theorem dX10_weighTwos_1 : decode cX10_weighTwos 1 = .ok (.getfield 83, 3) := by decide +kernel
theorem dX10_weighTwos_4 : decode cX10_weighTwos 4 = .ok (.aload_n 0, 1) := by decide +kernel
theorem dX10_weighTwos_5 : decode cX10_weighTwos 5 = .ok (.getfield 55, 3) := by decide +kernel
theorem dX10_weighTwos_8 : decode cX10_weighTwos 8 = .ok (.getfield 121, 3) := by decide +kernel
theorem dX10_weighTwos_11 : decode cX10_weighTwos 11 = .ok (.invokevirtual 127, 3) := by decide +kernel
theorem dX10_weighTwos_14 : decode cX10_weighTwos 14 = .ok (.iconst 0, 1) := by decide +kernel
theorem dX10_weighTwos_15 : decode cX10_weighTwos 15 = .ok (.istore 4, 2) := by decide +kernel
theorem dX10_weighTwos_17 : decode cX10_weighTwos 17 = .ok (.iload 4, 2) := by decide +kernel
theorem dX10_weighTwos_19 : decode cX10_weighTwos 19 = .ok (.aload_n 0, 1) := by decide +kernel
theorem dX10_weighTwos_20 : decode cX10_weighTwos 20 = .ok (.getfield 55, 3) := by decide +kernel
theorem dX10_weighTwos_23 : decode cX10_weighTwos 23 = .ok (.getfield 114, 3) := by decide +kernel
theorem dX10_weighTwos_26 : decode cX10_weighTwos 26 = .ok (.getfield 192, 3) := by decide +kernel
theorem dX10_weighTwos_29 : decode cX10_weighTwos 29 = .ok (.if_icmp .ge 127, 3) := by decide +kernel
theorem dX10_weighTwos_32 : decode cX10_weighTwos 32 = .ok (.iconst 0, 1) := by decide +kernel
theorem dX10_weighTwos_33 : decode cX10_weighTwos 33 = .ok (.istore 5, 2) := by decide +kernel
theorem dX10_weighTwos_35 : decode cX10_weighTwos 35 = .ok (.iload 5, 2) := by decide +kernel
theorem dX10_weighTwos_37 : decode cX10_weighTwos 37 = .ok (.aload_n 0, 1) := by decide +kernel
theorem dX10_weighTwos_38 : decode cX10_weighTwos 38 = .ok (.getfield 55, 3) := by decide +kernel
theorem dX10_weighTwos_41 : decode cX10_weighTwos 41 = .ok (.getfield 114, 3) := by decide +kernel
theorem dX10_weighTwos_44 : decode cX10_weighTwos 44 = .ok (.getfield 192, 3) := by decide +kernel
theorem dX10_weighTwos_47 : decode cX10_weighTwos 47 = .ok (.if_icmp .ge 103, 3) := by decide +kernel
theorem dX10_weighTwos_50 : decode cX10_weighTwos 50 = .ok (.aload_n 0, 1) := by decide +kernel
theorem dX10_weighTwos_51 : decode cX10_weighTwos 51 = .ok (.getfield 83, 3) := by decide +kernel
theorem dX10_weighTwos_54 : decode cX10_weighTwos 54 = .ok (.getfield 153, 3) := by decide +kernel
theorem dX10_weighTwos_57 : decode cX10_weighTwos 57 = .ok (.iload_n 1, 1) := by decide +kernel
theorem dX10_weighTwos_58 : decode cX10_weighTwos 58 = .ok (.iload 4, 2) := by decide +kernel
theorem dX10_weighTwos_60 : decode cX10_weighTwos 60 = .ok (.iastore, 1) := by decide +kernel
theorem dX10_weighTwos_61 : decode cX10_weighTwos 61 = .ok (.aload_n 0, 1) := by decide +kernel
theorem dX10_weighTwos_62 : decode cX10_weighTwos 62 = .ok (.getfield 83, 3) := by decide +kernel
theorem dX10_weighTwos_65 : decode cX10_weighTwos 65 = .ok (.getfield 153, 3) := by decide +kernel
theorem dX10_weighTwos_68 : decode cX10_weighTwos 68 = .ok (.iload_n 2, 1) := by decide +kernel
theorem dX10_weighTwos_69 : decode cX10_weighTwos 69 = .ok (.iload 5, 2) := by decide +kernel
theorem dX10_weighTwos_71 : decode cX10_weighTwos 71 = .ok (.iastore, 1) := by decide +kernel
theorem dX10_weighTwos_72 : decode cX10_weighTwos 72 = .ok (.aload_n 0, 1) := by decide +kernel
theorem dX10_weighTwos_73 : decode cX10_weighTwos 73 = .ok (.getfield 76, 3) := by decide +kernel
theorem dX10_weighTwos_76 : decode cX10_weighTwos 76 = .ok (.aload_n 0, 1) := by decide +kernel
theorem dX10_weighTwos_77 : decode cX10_weighTwos 77 = .ok (.getfield 55, 3) := by decide +kernel
theorem dX10_weighTwos_80 : decode cX10_weighTwos 80 = .ok (.getfield 114, 3) := by decide +kernel
theorem dX10_weighTwos_83 : decode cX10_weighTwos 83 = .ok (.aload_n 0, 1) := by decide +kernel
theorem dX10_weighTwos_84 : decode cX10_weighTwos 84 = .ok (.invokevirtual 296, 3) := by decide +kernel
theorem dX10_weighTwos_87 : decode cX10_weighTwos 87 = .ok (.aload_n 0, 1) := by decide +kernel
theorem dX10_weighTwos_88 : decode cX10_weighTwos 88 = .ok (.getfield 83, 3) := by decide +kernel
theorem dX10_weighTwos_91 : decode cX10_weighTwos 91 = .ok (.invokevirtual 299, 3) := by decide +kernel
theorem dX10_weighTwos_94 : decode cX10_weighTwos 94 = .ok (.aload_n 0, 1) := by decide +kernel
theorem dX10_weighTwos_95 : decode cX10_weighTwos 95 = .ok (.getfield 76, 3) := by decide +kernel
theorem dX10_weighTwos_98 : decode cX10_weighTwos 98 = .ok (.iload_n 3, 1) := by decide +kernel
theorem dX10_weighTwos_99 : decode cX10_weighTwos 99 = .ok (.invokevirtual 242, 3) := by decide +kernel
theorem dX10_weighTwos_102 : decode cX10_weighTwos 102 = .ok (.aload_n 0, 1) := by decide +kernel
theorem dX10_weighTwos_103 : decode cX10_weighTwos 103 = .ok (.getfield 94, 3) := by decide +kernel
theorem dX10_weighTwos_106 : decode cX10_weighTwos 106 = .ok (.iload 4, 2) := by decide +kernel
theorem dX10_weighTwos_108 : decode cX10_weighTwos 108 = .ok (.bipush 8, 2) := by decide +kernel
theorem dX10_weighTwos_110 : decode cX10_weighTwos 110 = .ok (.imul, 1) := by decide +kernel
theorem dX10_weighTwos_111 : decode cX10_weighTwos 111 = .ok (.iload 5, 2) := by decide +kernel
theorem dX10_weighTwos_113 : decode cX10_weighTwos 113 = .ok (.iadd, 1) := by decide +kernel
theorem dX10_weighTwos_114 : decode cX10_weighTwos 114 = .ok (.aload_n 0, 1) := by decide +kernel
theorem dX10_weighTwos_115 : decode cX10_weighTwos 115 = .ok (.getfield 76, 3) := by decide +kernel
theorem dX10_weighTwos_118 : decode cX10_weighTwos 118 = .ok (.iload_n 1, 1) := by decide +kernel
theorem dX10_weighTwos_119 : decode cX10_weighTwos 119 = .ok (.invokevirtual 311, 3) := by decide +kernel
theorem dX10_weighTwos_122 : decode cX10_weighTwos 122 = .ok (.iastore, 1) := by decide +kernel
theorem dX10_weighTwos_123 : decode cX10_weighTwos 123 = .ok (.aload_n 0, 1) := by decide +kernel
theorem dX10_weighTwos_124 : decode cX10_weighTwos 124 = .ok (.getfield 97, 3) := by decide +kernel
theorem dX10_weighTwos_127 : decode cX10_weighTwos 127 = .ok (.iload 4, 2) := by decide +kernel
theorem dX10_weighTwos_129 : decode cX10_weighTwos 129 = .ok (.bipush 8, 2) := by decide +kernel
theorem dX10_weighTwos_131 : decode cX10_weighTwos 131 = .ok (.imul, 1) := by decide +kernel
theorem dX10_weighTwos_132 : decode cX10_weighTwos 132 = .ok (.iload 5, 2) := by decide +kernel
theorem dX10_weighTwos_134 : decode cX10_weighTwos 134 = .ok (.iadd, 1) := by decide +kernel
theorem dX10_weighTwos_135 : decode cX10_weighTwos 135 = .ok (.aload_n 0, 1) := by decide +kernel
theorem dX10_weighTwos_136 : decode cX10_weighTwos 136 = .ok (.getfield 76, 3) := by decide +kernel
theorem dX10_weighTwos_139 : decode cX10_weighTwos 139 = .ok (.iload_n 2, 1) := by decide +kernel
theorem dX10_weighTwos_140 : decode cX10_weighTwos 140 = .ok (.invokevirtual 311, 3) := by decide +kernel
theorem dX10_weighTwos_143 : decode cX10_weighTwos 143 = .ok (.iastore, 1) := by decide +kernel
theorem dX10_weighTwos_144 : decode cX10_weighTwos 144 = .ok (.iinc 5 1, 3) := by decide +kernel
theorem dX10_weighTwos_147 : decode cX10_weighTwos 147 = .ok (.goto (-112), 3) := by decide +kernel
theorem dX10_weighTwos_150 : decode cX10_weighTwos 150 = .ok (.iinc 4 1, 3) := by decide +kernel
theorem dX10_weighTwos_153 : decode cX10_weighTwos 153 = .ok (.goto (-136), 3) := by decide +kernel
theorem dX10_weighTwos_156 : decode cX10_weighTwos 156 = .ok (.return_, 1) := by decide +kernel
theorem hd_X10_notesAreSo : yX10_notesAreSo.cls ≠ "java/lang/invoke/MethodHandle" ∧ yX10_notesAreSo.cls ≠ "java/lang/invoke/VarHandle" ∧ (parseMethodDescriptor yX10_notesAreSo.desc).map (fun d => d.parameters.length) = some 2 := ⟨by decide +kernel, by decide +kernel, by decide +kernel⟩
theorem hd_X1_gainOf : yX1_gainOf.cls ≠ "java/lang/invoke/MethodHandle" ∧ yX1_gainOf.cls ≠ "java/lang/invoke/VarHandle" ∧ (parseMethodDescriptor yX1_gainOf.desc).map (fun d => d.parameters.length) = some 1 := ⟨by decide +kernel, by decide +kernel, by decide +kernel⟩
set_option maxHeartbeats 4000000 in
set_option maxRecDepth 100000 in
theorem k_bestOf_340 (l : Launch) (D : va_G) (K : Nat → ClassId) (ad : Nat → Nat) (z : TS) (o : Ok z) (x1 : Int32) (bx1 : iv 0 8 x1) (x2 : Int32) (bx2 : iv 0 5 x2) (x3 : Int32) (bx3 : iv 1 40 x3) (x4 : Int32) : cI l yX10_bestOf cX10_bestOf 10 .int ({ frames := 6, cells := 0, slots := 0, locals := 146 }) D K ad z [.ref (ad 0), .ref (ad 340), .int x1, .int x2, .int x3, .int x4] (fun r u => Ok u ∧ KC z u) := by
  refine t_enterI (by decide) (Nat.le_of_ble_eq_true rfl) rfl rfl ?_
  intro p e s m args below meth c A R Q H locs ls E hfr hlo RET G hl
  have E : mE p s m meth c cX10_bestOf args 10 RX10 D K A := E
  have hl : lv_has ls 10 [(0, .ref (ad 0)), (1, .ref (ad 340)), (2, .int x1), (3, .int x2), (4, .int x3), (5, .int x4)] := hl
  refine lv_aload_n E.1 E.2.1 dX10_bestOf_0 rfl (lv_at hl 0 rfl) ?_
  refine t_get E G 10 12 (rfl : ro 0 = 10) (C := RX10) (T := TX10) (N := 17) rfl (by decide) (by decide) (by decide) mw_fl_10_83 (v := .ref (ad 335)) (fvl_o (n := 335) rfl) dX10_bestOf_1 ?_
  refine lv_aload_n E.1 E.2.1 dX10_bestOf_4 rfl (lv_at hl 0 rfl) ?_
  refine t_get E G 10 7 (rfl : ro 0 = 10) (C := RX10) (T := TX10) (N := 17) rfl (by decide) (by decide) (by decide) mw_fl_10_55 (v := .ref (ad 56)) (fvl_o (n := 56) rfl) dX10_bestOf_5 ?_
  refine t_get E G 2 1 (rfl : ro 56 = 2) (C := RX2) (T := TX2) (N := 5) rfl (by decide) (by decide) (by decide) mw_fl_10_121 (v := .ref (ad 70)) (fvl_o (n := 14) rfl) dX10_bestOf_8 ?_
  refine t_vv E G hl (s_copy l D K ad z o 335 (by decide : at_ 6 335 = true) 70 (by decide : at_ 6 70 = true)) 6 (rfl : ro 335 = 6) (by decide) rfl rfl 1 rfl mw_code_X6_copyFrom mw_ini_6 mw_ml_10_127 mw_inst_X6_copyFrom mw_sel_X6_copyFrom hd_X6_copyFrom ⟨Nat.le_trans (by decide) hfr, Nat.le_trans (by decide) hlo⟩ rfl rfl rfl (Nat.le_of_ble_eq_true rfl) dX10_bestOf_11 (fun zz1 H locs hp3 G => ?_)
  obtain ⟨oo4, kk5⟩ := hp3
  have kk6 : KC z zz1 := KC.tr KC.rf kk5
  refine lv_iconst (v := (-1)) E.1 E.2.1 dX10_bestOf_14 (by decide) ?_
  refine lv_istore (lv' := [(6, .int (-1)), (0, .ref (ad 0)), (1, .ref (ad 340)), (2, .int x1), (3, .int x2), (4, .int x3), (5, .int x4)]) E.1 E.2.1 dX10_bestOf_15 hl (by decide) rfl (fun ls hl => ?_)
  refine lv_iconst (v := (-1)) E.1 E.2.1 dX10_bestOf_17 (by decide) ?_
  refine lv_istore (lv' := [(7, .int (-1)), (6, .int (-1)), (0, .ref (ad 0)), (1, .ref (ad 340)), (2, .int x1), (3, .int x2), (4, .int x3), (5, .int x4)]) E.1 E.2.1 dX10_bestOf_18 hl (by decide) rfl (fun ls hl => ?_)
  refine lv_iconst (v := (-1)) E.1 E.2.1 dX10_bestOf_20 (by decide) ?_
  refine lv_istore (lv' := [(8, .int (-1)), (7, .int (-1)), (6, .int (-1)), (0, .ref (ad 0)), (1, .ref (ad 340)), (2, .int x1), (3, .int x2), (4, .int x3), (5, .int x4)]) E.1 E.2.1 dX10_bestOf_21 hl (by decide) rfl (fun ls hl => ?_)
  have LOOP23 : ∀ n : Nat, ∀ (zz10 : TS) (y7 : Int32) (y8 : Int32) (y9 : Int32) (H : Heap) (locs : List Loc) (ls : Array Slot), mG D A s H locs (wd K ad zz10) → Ok zz10 → KC z zz10 → iv (-1) 8 y7 → 8 < y7.toInt + (n : Int) → lv_has ls 10 [(8, .int y7), (7, .int y8), (6, .int y9), (0, .ref (ad 0)), (1, .ref (ad 340)), (2, .int x1), (3, .int x2), (4, .int x3), (5, .int x4)] → W p l e R s m args below meth c H locs 0 0 Q (F0 m 23 ls []) := by
    intro n
    induction n with
    | zero =>
      intro zz10 y7 y8 y9 H locs ls G oo11 kk12 b14 m13 hl
      exact absurd m13 (by have := b14.1; have := b14.2; omega)
    | succ n ih23 =>
      intro zz10 y7 y8 y9 H locs ls G oo11 kk12 b14 m13 hl
      refine lv_iload E.1 E.2.1 dX10_bestOf_23 (lv_at hl 0 rfl) ?_
      refine lv_iload_n E.1 E.2.1 dX10_bestOf_25 rfl (lv_at hl 5 rfl) ?_
      refine lv_icmp_ge (tgt := 115) E.1 E.2.1 dX10_bestOf_26 (by decide) (fun c15 => ?_) (fun c15 => ?_)
      · skip
        have b16 : iv 0 8 y7 := le_r c15 bx1 b14 (by decide)
        refine lv_iload E.1 E.2.1 dX10_bestOf_115 (lv_at hl 8 rfl) ?_
        refine lv_if_ne (tgt := 125) E.1 E.2.1 dX10_bestOf_117 (by decide) (fun c17 => ?_) (fun c17 => ?_)
        · skip
          refine lv_iload E.1 E.2.1 dX10_bestOf_125 (lv_at hl 1 rfl) ?_
          exact RET G ⟨oo11, kk12⟩ rfl dX10_bestOf_127
        · skip
          have b18 : iv 0 0 x4 := iv_eq c17 (iv_lit (lo := 0) (hi := 0) 0 (by decide) (by decide))
          refine lv_iload E.1 E.2.1 dX10_bestOf_120 (lv_at hl 2 rfl) ?_
          refine lv_goto (tgt := 127) E.1 E.2.1 dX10_bestOf_122 (by decide) ?_
          exact RET G ⟨oo11, kk12⟩ rfl dX10_bestOf_127
      · skip
        have b19 : iv (-1) 7 y7 := lt_l (Int32.not_le.mp c15) b14 bx1 (by decide)
        refine lv_iload E.1 E.2.1 dX10_bestOf_29 (lv_at hl 0 rfl) ?_
        refine lv_iconst (v := (-1)) E.1 E.2.1 dX10_bestOf_31 (by decide) ?_
        refine lv_icmp_eq (tgt := 40) E.1 E.2.1 dX10_bestOf_32 (by decide) (fun c20 => ?_) (fun c20 => ?_)
        · skip
          have b21 : iv (-1) (-1) y7 := iv_eq c20 (iv_lit (lo := (-1)) (hi := (-1)) (-1) (by decide) (by decide))
          refine lv_aload_n E.1 E.2.1 dX10_bestOf_40 rfl (lv_at hl 3 rfl) ?_
          refine t_get E G 10 11 (rfl : ro 0 = 10) (C := RX10) (T := TX10) (N := 17) rfl (by decide) (by decide) (by decide) mw_fl_10_76 (v := .ref (ad 324)) (fvl_o (n := 324) rfl) dX10_bestOf_41 ?_
          refine lv_aload_n E.1 E.2.1 dX10_bestOf_44 rfl (lv_at hl 3 rfl) ?_
          refine t_get E G 10 7 (rfl : ro 0 = 10) (C := RX10) (T := TX10) (N := 17) rfl (by decide) (by decide) (by decide) mw_fl_10_55 (v := .ref (ad 56)) (fvl_o (n := 56) rfl) dX10_bestOf_45 ?_
          refine t_get E G 2 0 (rfl : ro 56 = 2) (C := RX2) (T := TX2) (N := 5) rfl (by decide) (by decide) (by decide) mw_fl_10_114 (v := .ref (ad 57)) (fvl_o (n := 1) rfl) dX10_bestOf_48 ?_
          refine lv_aload_n E.1 E.2.1 dX10_bestOf_51 rfl (lv_at hl 3 rfl) ?_
          refine t_vr E G hl (k_inForce l D K ad zz10 oo11) 10 (rfl : ro 0 = 10) (by decide) rfl rfl 0 rfl mw_code_X10_inForce mw_ini_10 mw_ml_10_296 mw_inst_X10_inForce mw_sel_X10_inForce hd_X10_inForce ⟨Nat.le_trans (by decide) hfr, Nat.le_trans (by decide) hlo⟩ rfl rfl rfl (Nat.le_of_ble_eq_true rfl) dX10_bestOf_52 (fun r23 zz22 H locs hp24 G => ?_)
          obtain ⟨hz26, h25⟩ := hp24
          rw [hz26] at G
          refine lv_aload_n E.1 E.2.1 dX10_bestOf_55 rfl (lv_at hl 3 rfl) ?_
          refine t_get E G 10 12 (rfl : ro 0 = 10) (C := RX10) (T := TX10) (N := 17) rfl (by decide) (by decide) (by decide) mw_fl_10_83 (v := .ref (ad 335)) (fvl_o (n := 335) rfl) dX10_bestOf_56 ?_
          refine t_vv E G hl (c_start l D K ad zz10 oo11 57 (by decide : at_ 8 57 = true) r23 h25 335 (by decide : at_ 6 335 = true)) 1 (rfl : ro 324 = 1) (by decide) rfl rfl 3 rfl mw_code_X1_start mw_ini_1 mw_ml_10_299 mw_inst_X1_start mw_sel_X1_start hd_X1_start ⟨Nat.le_trans (by decide) hfr, Nat.le_trans (by decide) hlo⟩ rfl rfl rfl (Nat.le_of_ble_eq_true rfl) dX10_bestOf_59 (fun zz27 H locs hp29 G => ?_)
          obtain ⟨oo30, kk31⟩ := hp29
          have kk32 : KC z zz27 := KC.tr kk12 kk31
          refine lv_aload_n E.1 E.2.1 dX10_bestOf_62 rfl (lv_at hl 3 rfl) ?_
          refine t_get E G 10 11 (rfl : ro 0 = 10) (C := RX10) (T := TX10) (N := 17) rfl (by decide) (by decide) (by decide) mw_fl_10_76 (v := .ref (ad 324)) (fvl_o (n := 324) rfl) dX10_bestOf_63 ?_
          refine lv_iload E.1 E.2.1 dX10_bestOf_66 (lv_at hl 7 rfl) ?_
          refine t_vv E G hl (c_goSteps l D K ad zz27 oo30 x3 (iv_mono bx3 (by decide) (by decide))) 1 (rfl : ro 324 = 1) (by decide) rfl rfl 1 rfl mw_code_X1_goSteps mw_ini_1 mw_ml_10_242 mw_inst_X1_goSteps mw_sel_X1_goSteps hd_X1_goSteps ⟨Nat.le_trans (by decide) hfr, Nat.le_trans (by decide) hlo⟩ rfl rfl rfl (Nat.le_of_ble_eq_true rfl) dX10_bestOf_68 (fun zz33 H locs hp35 G => ?_)
          obtain ⟨oo36, kk37⟩ := hp35
          have kk38 : KC z zz33 := KC.tr kk32 kk37
          refine lv_aload_n E.1 E.2.1 dX10_bestOf_71 rfl (lv_at hl 3 rfl) ?_
          refine t_get E G 10 11 (rfl : ro 0 = 10) (C := RX10) (T := TX10) (N := 17) rfl (by decide) (by decide) (by decide) mw_fl_10_76 (v := .ref (ad 324)) (fvl_o (n := 324) rfl) dX10_bestOf_72 ?_
          refine t_get E G 1 0 (rfl : ro 324 = 1) (C := RX1) (T := TX1) (N := 6) rfl (by decide) (by decide) (by decide) mw_fl_10_232 (v := .ref (ad 325)) (fvl_o (n := 1) rfl) dX10_bestOf_75 ?_
          refine lv_aload_n E.1 E.2.1 dX10_bestOf_78 rfl (lv_at hl 3 rfl) ?_
          refine t_get E G 10 7 (rfl : ro 0 = 10) (C := RX10) (T := TX10) (N := 17) rfl (by decide) (by decide) (by decide) mw_fl_10_55 (v := .ref (ad 56)) (fvl_o (n := 56) rfl) dX10_bestOf_79 ?_
          refine t_get E G 2 0 (rfl : ro 56 = 2) (C := RX2) (T := TX2) (N := 5) rfl (by decide) (by decide) (by decide) mw_fl_10_114 (v := .ref (ad 57)) (fvl_o (n := 1) rfl) dX10_bestOf_82 ?_
          refine t_get E G 8 3 (rfl : ro 57 = 8) (C := RX8) (T := TX8) (N := 10) rfl (by decide) (by decide) (by decide) mw_fl_10_140 (fvl_i rfl) dX10_bestOf_85 ?_
          refine lv_topi (fun v39 e40 => ?_)
          have b41 : iv 0 5 v39 := by rw [e40]; exact oo36.i 8 3 (rfl : ro 57 = 8)
          refine t_vi E G hl (s_all l D K ad zz33 oo36 325 (by decide : at_ 6 325 = true) v39 (iv_mono b41 (by decide) (by decide))) 6 (rfl : ro 325 = 6) (by decide) rfl rfl 1 rfl mw_code_X6_allCharges mw_ini_6 mw_ml_10_211 mw_inst_X6_allCharges mw_sel_X6_allCharges hd_X6_allCharges ⟨Nat.le_trans (by decide) hfr, Nat.le_trans (by decide) hlo⟩ rfl rfl rfl (Nat.le_of_ble_eq_true rfl) dX10_bestOf_88 (fun r43 zz42 H locs hp44 G => ?_)
          have hz45 := hp44
          rw [hz45] at G
          refine lv_istore (lv' := [(9, .int r43), (8, .int y7), (7, .int y8), (6, .int y9), (0, .ref (ad 0)), (1, .ref (ad 340)), (2, .int x1), (3, .int x2), (4, .int x3), (5, .int x4)]) E.1 E.2.1 dX10_bestOf_91 hl (by decide) rfl (fun ls hl => ?_)
          refine lv_iload E.1 E.2.1 dX10_bestOf_93 (lv_at hl 0 rfl) ?_
          refine lv_iload E.1 E.2.1 dX10_bestOf_95 (lv_at hl 2 rfl) ?_
          refine lv_icmp_le (tgt := 109) E.1 E.2.1 dX10_bestOf_97 (by decide) (fun c46 => ?_) (fun c46 => ?_)
          · skip
            obtain ⟨v47, e48⟩ : ∃ w : Int32, w = y7 + (1 : Int32) := ⟨_, rfl⟩
            refine lv_iinc (v := v47) (lv' := [(8, .int v47), (9, .int r43), (7, .int y8), (6, .int y9), (0, .ref (ad 0)), (1, .ref (ad 340)), (2, .int x1), (3, .int x2), (4, .int x3), (5, .int x4)]) E.1 E.2.1 dX10_bestOf_109 hl (k := 1) rfl (by rw [e48]; rfl) (by decide) rfl (fun ls hl => ?_)
            have b49 : iv 0 0 v47 := by rw [e48]; exact iv_add b21 (iv_lit (lo := 1) (hi := 1) 1 (by decide) (by decide)) (by decide) (by decide) (by decide) (by decide)
            have t50 : v47.toInt = y7.toInt + 1 := by rw [e48]; exact ti_addc 1 (by decide) b21 (by decide) (by decide)
            refine lv_goto (tgt := 23) E.1 E.2.1 dX10_bestOf_112 (by decide) ?_
            exact ih23 zz33 v47 y8 y9 H locs ls G oo36 kk38 (iv_mono b49 (by decide) (by decide)) (by have := t50; have := m13; omega) (lv_sub hl [0, 2, 3, 4, 5, 6, 7, 8, 9] rfl)
          · skip
            have b51 : iv (-2147483648) 2147483646 y8 := lt_l (Int32.not_le.mp c46) (iv_full y8) (iv_full r43) (by decide)
            have b52 : iv (-2147483647) 2147483647 r43 := lt_r (Int32.not_le.mp c46) (iv_full y8) (iv_full r43) (by decide)
            refine lv_iload E.1 E.2.1 dX10_bestOf_100 (lv_at hl 0 rfl) ?_
            refine lv_istore (lv' := [(7, .int r43), (9, .int r43), (8, .int y7), (6, .int y9), (0, .ref (ad 0)), (1, .ref (ad 340)), (2, .int x1), (3, .int x2), (4, .int x3), (5, .int x4)]) E.1 E.2.1 dX10_bestOf_102 hl (by decide) rfl (fun ls hl => ?_)
            refine lv_aload_n E.1 E.2.1 dX10_bestOf_104 rfl (lv_at hl 5 rfl) ?_
            refine lv_iload_n E.1 E.2.1 dX10_bestOf_105 rfl (lv_at hl 7 rfl) ?_
            refine t_iald E G 23 (rfl : ro 340 = 23) (by decide) (by decide) rfl (n := 6) rfl (iv_vp bx2 (by decide) (by decide)) dX10_bestOf_106 ?_
            refine lv_topi (fun v53 e54 => ?_)
            refine lv_istore (lv' := [(6, .int v53), (7, .int r43), (9, .int r43), (8, .int y7), (0, .ref (ad 0)), (1, .ref (ad 340)), (2, .int x1), (3, .int x2), (4, .int x3), (5, .int x4)]) E.1 E.2.1 dX10_bestOf_107 hl (by decide) rfl (fun ls hl => ?_)
            obtain ⟨v55, e56⟩ : ∃ w : Int32, w = y7 + (1 : Int32) := ⟨_, rfl⟩
            refine lv_iinc (v := v55) (lv' := [(8, .int v55), (6, .int v53), (7, .int r43), (9, .int r43), (0, .ref (ad 0)), (1, .ref (ad 340)), (2, .int x1), (3, .int x2), (4, .int x3), (5, .int x4)]) E.1 E.2.1 dX10_bestOf_109 hl (k := 3) rfl (by rw [e56]; rfl) (by decide) rfl (fun ls hl => ?_)
            have b57 : iv 0 0 v55 := by rw [e56]; exact iv_add b21 (iv_lit (lo := 1) (hi := 1) 1 (by decide) (by decide)) (by decide) (by decide) (by decide) (by decide)
            have t58 : v55.toInt = y7.toInt + 1 := by rw [e56]; exact ti_addc 1 (by decide) b21 (by decide) (by decide)
            refine lv_goto (tgt := 23) E.1 E.2.1 dX10_bestOf_112 (by decide) ?_
            exact ih23 zz33 v55 r43 v53 H locs ls G oo36 kk38 (iv_mono b57 (by decide) (by decide)) (by have := t58; have := m13; omega) (lv_sub hl [0, 2, 1, 4, 5, 6, 7, 8, 9] rfl)
        · skip
          have b59 : iv 0 7 y7 := ne_lo c20 b19 (by decide) (by decide)
          refine lv_aload_n E.1 E.2.1 dX10_bestOf_35 rfl (lv_at hl 4 rfl) ?_
          refine lv_iload_n E.1 E.2.1 dX10_bestOf_36 rfl (lv_at hl 6 rfl) ?_
          refine lv_iload E.1 E.2.1 dX10_bestOf_37 (lv_at hl 0 rfl) ?_
          refine t_iast E G 23 (rfl : ro 340 = 23) (by decide) (by decide) rfl (n := 6) rfl (iv_vp bx2 (by decide) (by decide)) dX10_bestOf_39 (fun H locs G => ?_)
          obtain ⟨zz60, G, oo61, kk62⟩ : ∃ u : TS, mG D A s H locs (wd K ad u) ∧ Ok u ∧ KC z u := ⟨_, G, ok_uc oo11 23 (rfl : ro 340 = 23) (by decide) (iv_mono b59 (by decide) (by decide)) (by decide), KC.tr kk12 (KC_r 23 (rfl : ro 340 = 23) (by decide))⟩
          refine lv_aload_n E.1 E.2.1 dX10_bestOf_40 rfl (lv_at hl 3 rfl) ?_
          refine t_get E G 10 11 (rfl : ro 0 = 10) (C := RX10) (T := TX10) (N := 17) rfl (by decide) (by decide) (by decide) mw_fl_10_76 (v := .ref (ad 324)) (fvl_o (n := 324) rfl) dX10_bestOf_41 ?_
          refine lv_aload_n E.1 E.2.1 dX10_bestOf_44 rfl (lv_at hl 3 rfl) ?_
          refine t_get E G 10 7 (rfl : ro 0 = 10) (C := RX10) (T := TX10) (N := 17) rfl (by decide) (by decide) (by decide) mw_fl_10_55 (v := .ref (ad 56)) (fvl_o (n := 56) rfl) dX10_bestOf_45 ?_
          refine t_get E G 2 0 (rfl : ro 56 = 2) (C := RX2) (T := TX2) (N := 5) rfl (by decide) (by decide) (by decide) mw_fl_10_114 (v := .ref (ad 57)) (fvl_o (n := 1) rfl) dX10_bestOf_48 ?_
          refine lv_aload_n E.1 E.2.1 dX10_bestOf_51 rfl (lv_at hl 3 rfl) ?_
          refine t_vr E G hl (k_inForce l D K ad zz60 oo61) 10 (rfl : ro 0 = 10) (by decide) rfl rfl 0 rfl mw_code_X10_inForce mw_ini_10 mw_ml_10_296 mw_inst_X10_inForce mw_sel_X10_inForce hd_X10_inForce ⟨Nat.le_trans (by decide) hfr, Nat.le_trans (by decide) hlo⟩ rfl rfl rfl (Nat.le_of_ble_eq_true rfl) dX10_bestOf_52 (fun r64 zz63 H locs hp65 G => ?_)
          obtain ⟨hz67, h66⟩ := hp65
          rw [hz67] at G
          refine lv_aload_n E.1 E.2.1 dX10_bestOf_55 rfl (lv_at hl 3 rfl) ?_
          refine t_get E G 10 12 (rfl : ro 0 = 10) (C := RX10) (T := TX10) (N := 17) rfl (by decide) (by decide) (by decide) mw_fl_10_83 (v := .ref (ad 335)) (fvl_o (n := 335) rfl) dX10_bestOf_56 ?_
          refine t_vv E G hl (c_start l D K ad zz60 oo61 57 (by decide : at_ 8 57 = true) r64 h66 335 (by decide : at_ 6 335 = true)) 1 (rfl : ro 324 = 1) (by decide) rfl rfl 3 rfl mw_code_X1_start mw_ini_1 mw_ml_10_299 mw_inst_X1_start mw_sel_X1_start hd_X1_start ⟨Nat.le_trans (by decide) hfr, Nat.le_trans (by decide) hlo⟩ rfl rfl rfl (Nat.le_of_ble_eq_true rfl) dX10_bestOf_59 (fun zz68 H locs hp70 G => ?_)
          obtain ⟨oo71, kk72⟩ := hp70
          have kk73 : KC z zz68 := KC.tr kk62 kk72
          refine lv_aload_n E.1 E.2.1 dX10_bestOf_62 rfl (lv_at hl 3 rfl) ?_
          refine t_get E G 10 11 (rfl : ro 0 = 10) (C := RX10) (T := TX10) (N := 17) rfl (by decide) (by decide) (by decide) mw_fl_10_76 (v := .ref (ad 324)) (fvl_o (n := 324) rfl) dX10_bestOf_63 ?_
          refine lv_iload E.1 E.2.1 dX10_bestOf_66 (lv_at hl 7 rfl) ?_
          refine t_vv E G hl (c_goSteps l D K ad zz68 oo71 x3 (iv_mono bx3 (by decide) (by decide))) 1 (rfl : ro 324 = 1) (by decide) rfl rfl 1 rfl mw_code_X1_goSteps mw_ini_1 mw_ml_10_242 mw_inst_X1_goSteps mw_sel_X1_goSteps hd_X1_goSteps ⟨Nat.le_trans (by decide) hfr, Nat.le_trans (by decide) hlo⟩ rfl rfl rfl (Nat.le_of_ble_eq_true rfl) dX10_bestOf_68 (fun zz74 H locs hp76 G => ?_)
          obtain ⟨oo77, kk78⟩ := hp76
          have kk79 : KC z zz74 := KC.tr kk73 kk78
          refine lv_aload_n E.1 E.2.1 dX10_bestOf_71 rfl (lv_at hl 3 rfl) ?_
          refine t_get E G 10 11 (rfl : ro 0 = 10) (C := RX10) (T := TX10) (N := 17) rfl (by decide) (by decide) (by decide) mw_fl_10_76 (v := .ref (ad 324)) (fvl_o (n := 324) rfl) dX10_bestOf_72 ?_
          refine t_get E G 1 0 (rfl : ro 324 = 1) (C := RX1) (T := TX1) (N := 6) rfl (by decide) (by decide) (by decide) mw_fl_10_232 (v := .ref (ad 325)) (fvl_o (n := 1) rfl) dX10_bestOf_75 ?_
          refine lv_aload_n E.1 E.2.1 dX10_bestOf_78 rfl (lv_at hl 3 rfl) ?_
          refine t_get E G 10 7 (rfl : ro 0 = 10) (C := RX10) (T := TX10) (N := 17) rfl (by decide) (by decide) (by decide) mw_fl_10_55 (v := .ref (ad 56)) (fvl_o (n := 56) rfl) dX10_bestOf_79 ?_
          refine t_get E G 2 0 (rfl : ro 56 = 2) (C := RX2) (T := TX2) (N := 5) rfl (by decide) (by decide) (by decide) mw_fl_10_114 (v := .ref (ad 57)) (fvl_o (n := 1) rfl) dX10_bestOf_82 ?_
          refine t_get E G 8 3 (rfl : ro 57 = 8) (C := RX8) (T := TX8) (N := 10) rfl (by decide) (by decide) (by decide) mw_fl_10_140 (fvl_i rfl) dX10_bestOf_85 ?_
          refine lv_topi (fun v80 e81 => ?_)
          have b82 : iv 0 5 v80 := by rw [e81]; exact oo77.i 8 3 (rfl : ro 57 = 8)
          refine t_vi E G hl (s_all l D K ad zz74 oo77 325 (by decide : at_ 6 325 = true) v80 (iv_mono b82 (by decide) (by decide))) 6 (rfl : ro 325 = 6) (by decide) rfl rfl 1 rfl mw_code_X6_allCharges mw_ini_6 mw_ml_10_211 mw_inst_X6_allCharges mw_sel_X6_allCharges hd_X6_allCharges ⟨Nat.le_trans (by decide) hfr, Nat.le_trans (by decide) hlo⟩ rfl rfl rfl (Nat.le_of_ble_eq_true rfl) dX10_bestOf_88 (fun r84 zz83 H locs hp85 G => ?_)
          have hz86 := hp85
          rw [hz86] at G
          refine lv_istore (lv' := [(9, .int r84), (8, .int y7), (7, .int y8), (6, .int y9), (0, .ref (ad 0)), (1, .ref (ad 340)), (2, .int x1), (3, .int x2), (4, .int x3), (5, .int x4)]) E.1 E.2.1 dX10_bestOf_91 hl (by decide) rfl (fun ls hl => ?_)
          refine lv_iload E.1 E.2.1 dX10_bestOf_93 (lv_at hl 0 rfl) ?_
          refine lv_iload E.1 E.2.1 dX10_bestOf_95 (lv_at hl 2 rfl) ?_
          refine lv_icmp_le (tgt := 109) E.1 E.2.1 dX10_bestOf_97 (by decide) (fun c87 => ?_) (fun c87 => ?_)
          · skip
            obtain ⟨v88, e89⟩ : ∃ w : Int32, w = y7 + (1 : Int32) := ⟨_, rfl⟩
            refine lv_iinc (v := v88) (lv' := [(8, .int v88), (9, .int r84), (7, .int y8), (6, .int y9), (0, .ref (ad 0)), (1, .ref (ad 340)), (2, .int x1), (3, .int x2), (4, .int x3), (5, .int x4)]) E.1 E.2.1 dX10_bestOf_109 hl (k := 1) rfl (by rw [e89]; rfl) (by decide) rfl (fun ls hl => ?_)
            have b90 : iv 1 8 v88 := by rw [e89]; exact iv_add b59 (iv_lit (lo := 1) (hi := 1) 1 (by decide) (by decide)) (by decide) (by decide) (by decide) (by decide)
            have t91 : v88.toInt = y7.toInt + 1 := by rw [e89]; exact ti_addc 1 (by decide) b59 (by decide) (by decide)
            refine lv_goto (tgt := 23) E.1 E.2.1 dX10_bestOf_112 (by decide) ?_
            exact ih23 zz74 v88 y8 y9 H locs ls G oo77 kk79 (iv_mono b90 (by decide) (by decide)) (by have := t91; have := m13; omega) (lv_sub hl [0, 2, 3, 4, 5, 6, 7, 8, 9] rfl)
          · skip
            have b92 : iv (-2147483648) 2147483646 y8 := lt_l (Int32.not_le.mp c87) (iv_full y8) (iv_full r84) (by decide)
            have b93 : iv (-2147483647) 2147483647 r84 := lt_r (Int32.not_le.mp c87) (iv_full y8) (iv_full r84) (by decide)
            refine lv_iload E.1 E.2.1 dX10_bestOf_100 (lv_at hl 0 rfl) ?_
            refine lv_istore (lv' := [(7, .int r84), (9, .int r84), (8, .int y7), (6, .int y9), (0, .ref (ad 0)), (1, .ref (ad 340)), (2, .int x1), (3, .int x2), (4, .int x3), (5, .int x4)]) E.1 E.2.1 dX10_bestOf_102 hl (by decide) rfl (fun ls hl => ?_)
            refine lv_aload_n E.1 E.2.1 dX10_bestOf_104 rfl (lv_at hl 5 rfl) ?_
            refine lv_iload_n E.1 E.2.1 dX10_bestOf_105 rfl (lv_at hl 7 rfl) ?_
            refine t_iald E G 23 (rfl : ro 340 = 23) (by decide) (by decide) rfl (n := 6) rfl (iv_vp bx2 (by decide) (by decide)) dX10_bestOf_106 ?_
            refine lv_topi (fun v94 e95 => ?_)
            refine lv_istore (lv' := [(6, .int v94), (7, .int r84), (9, .int r84), (8, .int y7), (0, .ref (ad 0)), (1, .ref (ad 340)), (2, .int x1), (3, .int x2), (4, .int x3), (5, .int x4)]) E.1 E.2.1 dX10_bestOf_107 hl (by decide) rfl (fun ls hl => ?_)
            obtain ⟨v96, e97⟩ : ∃ w : Int32, w = y7 + (1 : Int32) := ⟨_, rfl⟩
            refine lv_iinc (v := v96) (lv' := [(8, .int v96), (6, .int v94), (7, .int r84), (9, .int r84), (0, .ref (ad 0)), (1, .ref (ad 340)), (2, .int x1), (3, .int x2), (4, .int x3), (5, .int x4)]) E.1 E.2.1 dX10_bestOf_109 hl (k := 3) rfl (by rw [e97]; rfl) (by decide) rfl (fun ls hl => ?_)
            have b98 : iv 1 8 v96 := by rw [e97]; exact iv_add b59 (iv_lit (lo := 1) (hi := 1) 1 (by decide) (by decide)) (by decide) (by decide) (by decide) (by decide)
            have t99 : v96.toInt = y7.toInt + 1 := by rw [e97]; exact ti_addc 1 (by decide) b59 (by decide) (by decide)
            refine lv_goto (tgt := 23) E.1 E.2.1 dX10_bestOf_112 (by decide) ?_
            exact ih23 zz74 v96 r84 v94 H locs ls G oo77 kk79 (iv_mono b98 (by decide) (by decide)) (by have := t99; have := m13; omega) (lv_sub hl [0, 2, 1, 4, 5, 6, 7, 8, 9] rfl)
  exact LOOP23 10 zz1 (-1) (-1) (-1) H locs ls G oo4 kk6 (iv_mono (iv_lit (lo := (-1)) (hi := (-1)) (-1) (by decide) (by decide)) (by decide) (by decide)) (by have := (iv_lit (lo := (-1)) (hi := (-1)) (-1) (by decide) (by decide)).1; omega) (lv_sub hl [0, 1, 2, 3, 4, 5, 6, 7, 8] rfl)
set_option maxHeartbeats 4000000 in
set_option maxRecDepth 100000 in
theorem k_bestOf_341 (l : Launch) (D : va_G) (K : Nat → ClassId) (ad : Nat → Nat) (z : TS) (o : Ok z) (x1 : Int32) (bx1 : iv 0 8 x1) (x2 : Int32) (bx2 : iv 0 5 x2) (x3 : Int32) (bx3 : iv 1 40 x3) (x4 : Int32) : cI l yX10_bestOf cX10_bestOf 10 .int ({ frames := 6, cells := 0, slots := 0, locals := 146 }) D K ad z [.ref (ad 0), .ref (ad 341), .int x1, .int x2, .int x3, .int x4] (fun r u => Ok u ∧ KC z u) := by
  refine t_enterI (by decide) (Nat.le_of_ble_eq_true rfl) rfl rfl ?_
  intro p e s m args below meth c A R Q H locs ls E hfr hlo RET G hl
  have E : mE p s m meth c cX10_bestOf args 10 RX10 D K A := E
  have hl : lv_has ls 10 [(0, .ref (ad 0)), (1, .ref (ad 341)), (2, .int x1), (3, .int x2), (4, .int x3), (5, .int x4)] := hl
  refine lv_aload_n E.1 E.2.1 dX10_bestOf_0 rfl (lv_at hl 0 rfl) ?_
  refine t_get E G 10 12 (rfl : ro 0 = 10) (C := RX10) (T := TX10) (N := 17) rfl (by decide) (by decide) (by decide) mw_fl_10_83 (v := .ref (ad 335)) (fvl_o (n := 335) rfl) dX10_bestOf_1 ?_
  refine lv_aload_n E.1 E.2.1 dX10_bestOf_4 rfl (lv_at hl 0 rfl) ?_
  refine t_get E G 10 7 (rfl : ro 0 = 10) (C := RX10) (T := TX10) (N := 17) rfl (by decide) (by decide) (by decide) mw_fl_10_55 (v := .ref (ad 56)) (fvl_o (n := 56) rfl) dX10_bestOf_5 ?_
  refine t_get E G 2 1 (rfl : ro 56 = 2) (C := RX2) (T := TX2) (N := 5) rfl (by decide) (by decide) (by decide) mw_fl_10_121 (v := .ref (ad 70)) (fvl_o (n := 14) rfl) dX10_bestOf_8 ?_
  refine t_vv E G hl (s_copy l D K ad z o 335 (by decide : at_ 6 335 = true) 70 (by decide : at_ 6 70 = true)) 6 (rfl : ro 335 = 6) (by decide) rfl rfl 1 rfl mw_code_X6_copyFrom mw_ini_6 mw_ml_10_127 mw_inst_X6_copyFrom mw_sel_X6_copyFrom hd_X6_copyFrom ⟨Nat.le_trans (by decide) hfr, Nat.le_trans (by decide) hlo⟩ rfl rfl rfl (Nat.le_of_ble_eq_true rfl) dX10_bestOf_11 (fun zz1 H locs hp3 G => ?_)
  obtain ⟨oo4, kk5⟩ := hp3
  have kk6 : KC z zz1 := KC.tr KC.rf kk5
  refine lv_iconst (v := (-1)) E.1 E.2.1 dX10_bestOf_14 (by decide) ?_
  refine lv_istore (lv' := [(6, .int (-1)), (0, .ref (ad 0)), (1, .ref (ad 341)), (2, .int x1), (3, .int x2), (4, .int x3), (5, .int x4)]) E.1 E.2.1 dX10_bestOf_15 hl (by decide) rfl (fun ls hl => ?_)
  refine lv_iconst (v := (-1)) E.1 E.2.1 dX10_bestOf_17 (by decide) ?_
  refine lv_istore (lv' := [(7, .int (-1)), (6, .int (-1)), (0, .ref (ad 0)), (1, .ref (ad 341)), (2, .int x1), (3, .int x2), (4, .int x3), (5, .int x4)]) E.1 E.2.1 dX10_bestOf_18 hl (by decide) rfl (fun ls hl => ?_)
  refine lv_iconst (v := (-1)) E.1 E.2.1 dX10_bestOf_20 (by decide) ?_
  refine lv_istore (lv' := [(8, .int (-1)), (7, .int (-1)), (6, .int (-1)), (0, .ref (ad 0)), (1, .ref (ad 341)), (2, .int x1), (3, .int x2), (4, .int x3), (5, .int x4)]) E.1 E.2.1 dX10_bestOf_21 hl (by decide) rfl (fun ls hl => ?_)
  have LOOP23 : ∀ n : Nat, ∀ (zz10 : TS) (y7 : Int32) (y8 : Int32) (y9 : Int32) (H : Heap) (locs : List Loc) (ls : Array Slot), mG D A s H locs (wd K ad zz10) → Ok zz10 → KC z zz10 → iv (-1) 8 y7 → 8 < y7.toInt + (n : Int) → lv_has ls 10 [(8, .int y7), (7, .int y8), (6, .int y9), (0, .ref (ad 0)), (1, .ref (ad 341)), (2, .int x1), (3, .int x2), (4, .int x3), (5, .int x4)] → W p l e R s m args below meth c H locs 0 0 Q (F0 m 23 ls []) := by
    intro n
    induction n with
    | zero =>
      intro zz10 y7 y8 y9 H locs ls G oo11 kk12 b14 m13 hl
      exact absurd m13 (by have := b14.1; have := b14.2; omega)
    | succ n ih23 =>
      intro zz10 y7 y8 y9 H locs ls G oo11 kk12 b14 m13 hl
      refine lv_iload E.1 E.2.1 dX10_bestOf_23 (lv_at hl 0 rfl) ?_
      refine lv_iload_n E.1 E.2.1 dX10_bestOf_25 rfl (lv_at hl 5 rfl) ?_
      refine lv_icmp_ge (tgt := 115) E.1 E.2.1 dX10_bestOf_26 (by decide) (fun c15 => ?_) (fun c15 => ?_)
      · skip
        have b16 : iv 0 8 y7 := le_r c15 bx1 b14 (by decide)
        refine lv_iload E.1 E.2.1 dX10_bestOf_115 (lv_at hl 8 rfl) ?_
        refine lv_if_ne (tgt := 125) E.1 E.2.1 dX10_bestOf_117 (by decide) (fun c17 => ?_) (fun c17 => ?_)
        · skip
          refine lv_iload E.1 E.2.1 dX10_bestOf_125 (lv_at hl 1 rfl) ?_
          exact RET G ⟨oo11, kk12⟩ rfl dX10_bestOf_127
        · skip
          have b18 : iv 0 0 x4 := iv_eq c17 (iv_lit (lo := 0) (hi := 0) 0 (by decide) (by decide))
          refine lv_iload E.1 E.2.1 dX10_bestOf_120 (lv_at hl 2 rfl) ?_
          refine lv_goto (tgt := 127) E.1 E.2.1 dX10_bestOf_122 (by decide) ?_
          exact RET G ⟨oo11, kk12⟩ rfl dX10_bestOf_127
      · skip
        have b19 : iv (-1) 7 y7 := lt_l (Int32.not_le.mp c15) b14 bx1 (by decide)
        refine lv_iload E.1 E.2.1 dX10_bestOf_29 (lv_at hl 0 rfl) ?_
        refine lv_iconst (v := (-1)) E.1 E.2.1 dX10_bestOf_31 (by decide) ?_
        refine lv_icmp_eq (tgt := 40) E.1 E.2.1 dX10_bestOf_32 (by decide) (fun c20 => ?_) (fun c20 => ?_)
        · skip
          have b21 : iv (-1) (-1) y7 := iv_eq c20 (iv_lit (lo := (-1)) (hi := (-1)) (-1) (by decide) (by decide))
          refine lv_aload_n E.1 E.2.1 dX10_bestOf_40 rfl (lv_at hl 3 rfl) ?_
          refine t_get E G 10 11 (rfl : ro 0 = 10) (C := RX10) (T := TX10) (N := 17) rfl (by decide) (by decide) (by decide) mw_fl_10_76 (v := .ref (ad 324)) (fvl_o (n := 324) rfl) dX10_bestOf_41 ?_
          refine lv_aload_n E.1 E.2.1 dX10_bestOf_44 rfl (lv_at hl 3 rfl) ?_
          refine t_get E G 10 7 (rfl : ro 0 = 10) (C := RX10) (T := TX10) (N := 17) rfl (by decide) (by decide) (by decide) mw_fl_10_55 (v := .ref (ad 56)) (fvl_o (n := 56) rfl) dX10_bestOf_45 ?_
          refine t_get E G 2 0 (rfl : ro 56 = 2) (C := RX2) (T := TX2) (N := 5) rfl (by decide) (by decide) (by decide) mw_fl_10_114 (v := .ref (ad 57)) (fvl_o (n := 1) rfl) dX10_bestOf_48 ?_
          refine lv_aload_n E.1 E.2.1 dX10_bestOf_51 rfl (lv_at hl 3 rfl) ?_
          refine t_vr E G hl (k_inForce l D K ad zz10 oo11) 10 (rfl : ro 0 = 10) (by decide) rfl rfl 0 rfl mw_code_X10_inForce mw_ini_10 mw_ml_10_296 mw_inst_X10_inForce mw_sel_X10_inForce hd_X10_inForce ⟨Nat.le_trans (by decide) hfr, Nat.le_trans (by decide) hlo⟩ rfl rfl rfl (Nat.le_of_ble_eq_true rfl) dX10_bestOf_52 (fun r23 zz22 H locs hp24 G => ?_)
          obtain ⟨hz26, h25⟩ := hp24
          rw [hz26] at G
          refine lv_aload_n E.1 E.2.1 dX10_bestOf_55 rfl (lv_at hl 3 rfl) ?_
          refine t_get E G 10 12 (rfl : ro 0 = 10) (C := RX10) (T := TX10) (N := 17) rfl (by decide) (by decide) (by decide) mw_fl_10_83 (v := .ref (ad 335)) (fvl_o (n := 335) rfl) dX10_bestOf_56 ?_
          refine t_vv E G hl (c_start l D K ad zz10 oo11 57 (by decide : at_ 8 57 = true) r23 h25 335 (by decide : at_ 6 335 = true)) 1 (rfl : ro 324 = 1) (by decide) rfl rfl 3 rfl mw_code_X1_start mw_ini_1 mw_ml_10_299 mw_inst_X1_start mw_sel_X1_start hd_X1_start ⟨Nat.le_trans (by decide) hfr, Nat.le_trans (by decide) hlo⟩ rfl rfl rfl (Nat.le_of_ble_eq_true rfl) dX10_bestOf_59 (fun zz27 H locs hp29 G => ?_)
          obtain ⟨oo30, kk31⟩ := hp29
          have kk32 : KC z zz27 := KC.tr kk12 kk31
          refine lv_aload_n E.1 E.2.1 dX10_bestOf_62 rfl (lv_at hl 3 rfl) ?_
          refine t_get E G 10 11 (rfl : ro 0 = 10) (C := RX10) (T := TX10) (N := 17) rfl (by decide) (by decide) (by decide) mw_fl_10_76 (v := .ref (ad 324)) (fvl_o (n := 324) rfl) dX10_bestOf_63 ?_
          refine lv_iload E.1 E.2.1 dX10_bestOf_66 (lv_at hl 7 rfl) ?_
          refine t_vv E G hl (c_goSteps l D K ad zz27 oo30 x3 (iv_mono bx3 (by decide) (by decide))) 1 (rfl : ro 324 = 1) (by decide) rfl rfl 1 rfl mw_code_X1_goSteps mw_ini_1 mw_ml_10_242 mw_inst_X1_goSteps mw_sel_X1_goSteps hd_X1_goSteps ⟨Nat.le_trans (by decide) hfr, Nat.le_trans (by decide) hlo⟩ rfl rfl rfl (Nat.le_of_ble_eq_true rfl) dX10_bestOf_68 (fun zz33 H locs hp35 G => ?_)
          obtain ⟨oo36, kk37⟩ := hp35
          have kk38 : KC z zz33 := KC.tr kk32 kk37
          refine lv_aload_n E.1 E.2.1 dX10_bestOf_71 rfl (lv_at hl 3 rfl) ?_
          refine t_get E G 10 11 (rfl : ro 0 = 10) (C := RX10) (T := TX10) (N := 17) rfl (by decide) (by decide) (by decide) mw_fl_10_76 (v := .ref (ad 324)) (fvl_o (n := 324) rfl) dX10_bestOf_72 ?_
          refine t_get E G 1 0 (rfl : ro 324 = 1) (C := RX1) (T := TX1) (N := 6) rfl (by decide) (by decide) (by decide) mw_fl_10_232 (v := .ref (ad 325)) (fvl_o (n := 1) rfl) dX10_bestOf_75 ?_
          refine lv_aload_n E.1 E.2.1 dX10_bestOf_78 rfl (lv_at hl 3 rfl) ?_
          refine t_get E G 10 7 (rfl : ro 0 = 10) (C := RX10) (T := TX10) (N := 17) rfl (by decide) (by decide) (by decide) mw_fl_10_55 (v := .ref (ad 56)) (fvl_o (n := 56) rfl) dX10_bestOf_79 ?_
          refine t_get E G 2 0 (rfl : ro 56 = 2) (C := RX2) (T := TX2) (N := 5) rfl (by decide) (by decide) (by decide) mw_fl_10_114 (v := .ref (ad 57)) (fvl_o (n := 1) rfl) dX10_bestOf_82 ?_
          refine t_get E G 8 3 (rfl : ro 57 = 8) (C := RX8) (T := TX8) (N := 10) rfl (by decide) (by decide) (by decide) mw_fl_10_140 (fvl_i rfl) dX10_bestOf_85 ?_
          refine lv_topi (fun v39 e40 => ?_)
          have b41 : iv 0 5 v39 := by rw [e40]; exact oo36.i 8 3 (rfl : ro 57 = 8)
          refine t_vi E G hl (s_all l D K ad zz33 oo36 325 (by decide : at_ 6 325 = true) v39 (iv_mono b41 (by decide) (by decide))) 6 (rfl : ro 325 = 6) (by decide) rfl rfl 1 rfl mw_code_X6_allCharges mw_ini_6 mw_ml_10_211 mw_inst_X6_allCharges mw_sel_X6_allCharges hd_X6_allCharges ⟨Nat.le_trans (by decide) hfr, Nat.le_trans (by decide) hlo⟩ rfl rfl rfl (Nat.le_of_ble_eq_true rfl) dX10_bestOf_88 (fun r43 zz42 H locs hp44 G => ?_)
          have hz45 := hp44
          rw [hz45] at G
          refine lv_istore (lv' := [(9, .int r43), (8, .int y7), (7, .int y8), (6, .int y9), (0, .ref (ad 0)), (1, .ref (ad 341)), (2, .int x1), (3, .int x2), (4, .int x3), (5, .int x4)]) E.1 E.2.1 dX10_bestOf_91 hl (by decide) rfl (fun ls hl => ?_)
          refine lv_iload E.1 E.2.1 dX10_bestOf_93 (lv_at hl 0 rfl) ?_
          refine lv_iload E.1 E.2.1 dX10_bestOf_95 (lv_at hl 2 rfl) ?_
          refine lv_icmp_le (tgt := 109) E.1 E.2.1 dX10_bestOf_97 (by decide) (fun c46 => ?_) (fun c46 => ?_)
          · skip
            obtain ⟨v47, e48⟩ : ∃ w : Int32, w = y7 + (1 : Int32) := ⟨_, rfl⟩
            refine lv_iinc (v := v47) (lv' := [(8, .int v47), (9, .int r43), (7, .int y8), (6, .int y9), (0, .ref (ad 0)), (1, .ref (ad 341)), (2, .int x1), (3, .int x2), (4, .int x3), (5, .int x4)]) E.1 E.2.1 dX10_bestOf_109 hl (k := 1) rfl (by rw [e48]; rfl) (by decide) rfl (fun ls hl => ?_)
            have b49 : iv 0 0 v47 := by rw [e48]; exact iv_add b21 (iv_lit (lo := 1) (hi := 1) 1 (by decide) (by decide)) (by decide) (by decide) (by decide) (by decide)
            have t50 : v47.toInt = y7.toInt + 1 := by rw [e48]; exact ti_addc 1 (by decide) b21 (by decide) (by decide)
            refine lv_goto (tgt := 23) E.1 E.2.1 dX10_bestOf_112 (by decide) ?_
            exact ih23 zz33 v47 y8 y9 H locs ls G oo36 kk38 (iv_mono b49 (by decide) (by decide)) (by have := t50; have := m13; omega) (lv_sub hl [0, 2, 3, 4, 5, 6, 7, 8, 9] rfl)
          · skip
            have b51 : iv (-2147483648) 2147483646 y8 := lt_l (Int32.not_le.mp c46) (iv_full y8) (iv_full r43) (by decide)
            have b52 : iv (-2147483647) 2147483647 r43 := lt_r (Int32.not_le.mp c46) (iv_full y8) (iv_full r43) (by decide)
            refine lv_iload E.1 E.2.1 dX10_bestOf_100 (lv_at hl 0 rfl) ?_
            refine lv_istore (lv' := [(7, .int r43), (9, .int r43), (8, .int y7), (6, .int y9), (0, .ref (ad 0)), (1, .ref (ad 341)), (2, .int x1), (3, .int x2), (4, .int x3), (5, .int x4)]) E.1 E.2.1 dX10_bestOf_102 hl (by decide) rfl (fun ls hl => ?_)
            refine lv_aload_n E.1 E.2.1 dX10_bestOf_104 rfl (lv_at hl 5 rfl) ?_
            refine lv_iload_n E.1 E.2.1 dX10_bestOf_105 rfl (lv_at hl 7 rfl) ?_
            refine t_iald E G 23 (rfl : ro 341 = 23) (by decide) (by decide) rfl (n := 6) rfl (iv_vp bx2 (by decide) (by decide)) dX10_bestOf_106 ?_
            refine lv_topi (fun v53 e54 => ?_)
            refine lv_istore (lv' := [(6, .int v53), (7, .int r43), (9, .int r43), (8, .int y7), (0, .ref (ad 0)), (1, .ref (ad 341)), (2, .int x1), (3, .int x2), (4, .int x3), (5, .int x4)]) E.1 E.2.1 dX10_bestOf_107 hl (by decide) rfl (fun ls hl => ?_)
            obtain ⟨v55, e56⟩ : ∃ w : Int32, w = y7 + (1 : Int32) := ⟨_, rfl⟩
            refine lv_iinc (v := v55) (lv' := [(8, .int v55), (6, .int v53), (7, .int r43), (9, .int r43), (0, .ref (ad 0)), (1, .ref (ad 341)), (2, .int x1), (3, .int x2), (4, .int x3), (5, .int x4)]) E.1 E.2.1 dX10_bestOf_109 hl (k := 3) rfl (by rw [e56]; rfl) (by decide) rfl (fun ls hl => ?_)
            have b57 : iv 0 0 v55 := by rw [e56]; exact iv_add b21 (iv_lit (lo := 1) (hi := 1) 1 (by decide) (by decide)) (by decide) (by decide) (by decide) (by decide)
            have t58 : v55.toInt = y7.toInt + 1 := by rw [e56]; exact ti_addc 1 (by decide) b21 (by decide) (by decide)
            refine lv_goto (tgt := 23) E.1 E.2.1 dX10_bestOf_112 (by decide) ?_
            exact ih23 zz33 v55 r43 v53 H locs ls G oo36 kk38 (iv_mono b57 (by decide) (by decide)) (by have := t58; have := m13; omega) (lv_sub hl [0, 2, 1, 4, 5, 6, 7, 8, 9] rfl)
        · skip
          have b59 : iv 0 7 y7 := ne_lo c20 b19 (by decide) (by decide)
          refine lv_aload_n E.1 E.2.1 dX10_bestOf_35 rfl (lv_at hl 4 rfl) ?_
          refine lv_iload_n E.1 E.2.1 dX10_bestOf_36 rfl (lv_at hl 6 rfl) ?_
          refine lv_iload E.1 E.2.1 dX10_bestOf_37 (lv_at hl 0 rfl) ?_
          refine t_iast E G 23 (rfl : ro 341 = 23) (by decide) (by decide) rfl (n := 6) rfl (iv_vp bx2 (by decide) (by decide)) dX10_bestOf_39 (fun H locs G => ?_)
          obtain ⟨zz60, G, oo61, kk62⟩ : ∃ u : TS, mG D A s H locs (wd K ad u) ∧ Ok u ∧ KC z u := ⟨_, G, ok_uc oo11 23 (rfl : ro 341 = 23) (by decide) (iv_mono b59 (by decide) (by decide)) (by decide), KC.tr kk12 (KC_r 23 (rfl : ro 341 = 23) (by decide))⟩
          refine lv_aload_n E.1 E.2.1 dX10_bestOf_40 rfl (lv_at hl 3 rfl) ?_
          refine t_get E G 10 11 (rfl : ro 0 = 10) (C := RX10) (T := TX10) (N := 17) rfl (by decide) (by decide) (by decide) mw_fl_10_76 (v := .ref (ad 324)) (fvl_o (n := 324) rfl) dX10_bestOf_41 ?_
          refine lv_aload_n E.1 E.2.1 dX10_bestOf_44 rfl (lv_at hl 3 rfl) ?_
          refine t_get E G 10 7 (rfl : ro 0 = 10) (C := RX10) (T := TX10) (N := 17) rfl (by decide) (by decide) (by decide) mw_fl_10_55 (v := .ref (ad 56)) (fvl_o (n := 56) rfl) dX10_bestOf_45 ?_
          refine t_get E G 2 0 (rfl : ro 56 = 2) (C := RX2) (T := TX2) (N := 5) rfl (by decide) (by decide) (by decide) mw_fl_10_114 (v := .ref (ad 57)) (fvl_o (n := 1) rfl) dX10_bestOf_48 ?_
          refine lv_aload_n E.1 E.2.1 dX10_bestOf_51 rfl (lv_at hl 3 rfl) ?_
          refine t_vr E G hl (k_inForce l D K ad zz60 oo61) 10 (rfl : ro 0 = 10) (by decide) rfl rfl 0 rfl mw_code_X10_inForce mw_ini_10 mw_ml_10_296 mw_inst_X10_inForce mw_sel_X10_inForce hd_X10_inForce ⟨Nat.le_trans (by decide) hfr, Nat.le_trans (by decide) hlo⟩ rfl rfl rfl (Nat.le_of_ble_eq_true rfl) dX10_bestOf_52 (fun r64 zz63 H locs hp65 G => ?_)
          obtain ⟨hz67, h66⟩ := hp65
          rw [hz67] at G
          refine lv_aload_n E.1 E.2.1 dX10_bestOf_55 rfl (lv_at hl 3 rfl) ?_
          refine t_get E G 10 12 (rfl : ro 0 = 10) (C := RX10) (T := TX10) (N := 17) rfl (by decide) (by decide) (by decide) mw_fl_10_83 (v := .ref (ad 335)) (fvl_o (n := 335) rfl) dX10_bestOf_56 ?_
          refine t_vv E G hl (c_start l D K ad zz60 oo61 57 (by decide : at_ 8 57 = true) r64 h66 335 (by decide : at_ 6 335 = true)) 1 (rfl : ro 324 = 1) (by decide) rfl rfl 3 rfl mw_code_X1_start mw_ini_1 mw_ml_10_299 mw_inst_X1_start mw_sel_X1_start hd_X1_start ⟨Nat.le_trans (by decide) hfr, Nat.le_trans (by decide) hlo⟩ rfl rfl rfl (Nat.le_of_ble_eq_true rfl) dX10_bestOf_59 (fun zz68 H locs hp70 G => ?_)
          obtain ⟨oo71, kk72⟩ := hp70
          have kk73 : KC z zz68 := KC.tr kk62 kk72
          refine lv_aload_n E.1 E.2.1 dX10_bestOf_62 rfl (lv_at hl 3 rfl) ?_
          refine t_get E G 10 11 (rfl : ro 0 = 10) (C := RX10) (T := TX10) (N := 17) rfl (by decide) (by decide) (by decide) mw_fl_10_76 (v := .ref (ad 324)) (fvl_o (n := 324) rfl) dX10_bestOf_63 ?_
          refine lv_iload E.1 E.2.1 dX10_bestOf_66 (lv_at hl 7 rfl) ?_
          refine t_vv E G hl (c_goSteps l D K ad zz68 oo71 x3 (iv_mono bx3 (by decide) (by decide))) 1 (rfl : ro 324 = 1) (by decide) rfl rfl 1 rfl mw_code_X1_goSteps mw_ini_1 mw_ml_10_242 mw_inst_X1_goSteps mw_sel_X1_goSteps hd_X1_goSteps ⟨Nat.le_trans (by decide) hfr, Nat.le_trans (by decide) hlo⟩ rfl rfl rfl (Nat.le_of_ble_eq_true rfl) dX10_bestOf_68 (fun zz74 H locs hp76 G => ?_)
          obtain ⟨oo77, kk78⟩ := hp76
          have kk79 : KC z zz74 := KC.tr kk73 kk78
          refine lv_aload_n E.1 E.2.1 dX10_bestOf_71 rfl (lv_at hl 3 rfl) ?_
          refine t_get E G 10 11 (rfl : ro 0 = 10) (C := RX10) (T := TX10) (N := 17) rfl (by decide) (by decide) (by decide) mw_fl_10_76 (v := .ref (ad 324)) (fvl_o (n := 324) rfl) dX10_bestOf_72 ?_
          refine t_get E G 1 0 (rfl : ro 324 = 1) (C := RX1) (T := TX1) (N := 6) rfl (by decide) (by decide) (by decide) mw_fl_10_232 (v := .ref (ad 325)) (fvl_o (n := 1) rfl) dX10_bestOf_75 ?_
          refine lv_aload_n E.1 E.2.1 dX10_bestOf_78 rfl (lv_at hl 3 rfl) ?_
          refine t_get E G 10 7 (rfl : ro 0 = 10) (C := RX10) (T := TX10) (N := 17) rfl (by decide) (by decide) (by decide) mw_fl_10_55 (v := .ref (ad 56)) (fvl_o (n := 56) rfl) dX10_bestOf_79 ?_
          refine t_get E G 2 0 (rfl : ro 56 = 2) (C := RX2) (T := TX2) (N := 5) rfl (by decide) (by decide) (by decide) mw_fl_10_114 (v := .ref (ad 57)) (fvl_o (n := 1) rfl) dX10_bestOf_82 ?_
          refine t_get E G 8 3 (rfl : ro 57 = 8) (C := RX8) (T := TX8) (N := 10) rfl (by decide) (by decide) (by decide) mw_fl_10_140 (fvl_i rfl) dX10_bestOf_85 ?_
          refine lv_topi (fun v80 e81 => ?_)
          have b82 : iv 0 5 v80 := by rw [e81]; exact oo77.i 8 3 (rfl : ro 57 = 8)
          refine t_vi E G hl (s_all l D K ad zz74 oo77 325 (by decide : at_ 6 325 = true) v80 (iv_mono b82 (by decide) (by decide))) 6 (rfl : ro 325 = 6) (by decide) rfl rfl 1 rfl mw_code_X6_allCharges mw_ini_6 mw_ml_10_211 mw_inst_X6_allCharges mw_sel_X6_allCharges hd_X6_allCharges ⟨Nat.le_trans (by decide) hfr, Nat.le_trans (by decide) hlo⟩ rfl rfl rfl (Nat.le_of_ble_eq_true rfl) dX10_bestOf_88 (fun r84 zz83 H locs hp85 G => ?_)
          have hz86 := hp85
          rw [hz86] at G
          refine lv_istore (lv' := [(9, .int r84), (8, .int y7), (7, .int y8), (6, .int y9), (0, .ref (ad 0)), (1, .ref (ad 341)), (2, .int x1), (3, .int x2), (4, .int x3), (5, .int x4)]) E.1 E.2.1 dX10_bestOf_91 hl (by decide) rfl (fun ls hl => ?_)
          refine lv_iload E.1 E.2.1 dX10_bestOf_93 (lv_at hl 0 rfl) ?_
          refine lv_iload E.1 E.2.1 dX10_bestOf_95 (lv_at hl 2 rfl) ?_
          refine lv_icmp_le (tgt := 109) E.1 E.2.1 dX10_bestOf_97 (by decide) (fun c87 => ?_) (fun c87 => ?_)
          · skip
            obtain ⟨v88, e89⟩ : ∃ w : Int32, w = y7 + (1 : Int32) := ⟨_, rfl⟩
            refine lv_iinc (v := v88) (lv' := [(8, .int v88), (9, .int r84), (7, .int y8), (6, .int y9), (0, .ref (ad 0)), (1, .ref (ad 341)), (2, .int x1), (3, .int x2), (4, .int x3), (5, .int x4)]) E.1 E.2.1 dX10_bestOf_109 hl (k := 1) rfl (by rw [e89]; rfl) (by decide) rfl (fun ls hl => ?_)
            have b90 : iv 1 8 v88 := by rw [e89]; exact iv_add b59 (iv_lit (lo := 1) (hi := 1) 1 (by decide) (by decide)) (by decide) (by decide) (by decide) (by decide)
            have t91 : v88.toInt = y7.toInt + 1 := by rw [e89]; exact ti_addc 1 (by decide) b59 (by decide) (by decide)
            refine lv_goto (tgt := 23) E.1 E.2.1 dX10_bestOf_112 (by decide) ?_
            exact ih23 zz74 v88 y8 y9 H locs ls G oo77 kk79 (iv_mono b90 (by decide) (by decide)) (by have := t91; have := m13; omega) (lv_sub hl [0, 2, 3, 4, 5, 6, 7, 8, 9] rfl)
          · skip
            have b92 : iv (-2147483648) 2147483646 y8 := lt_l (Int32.not_le.mp c87) (iv_full y8) (iv_full r84) (by decide)
            have b93 : iv (-2147483647) 2147483647 r84 := lt_r (Int32.not_le.mp c87) (iv_full y8) (iv_full r84) (by decide)
            refine lv_iload E.1 E.2.1 dX10_bestOf_100 (lv_at hl 0 rfl) ?_
            refine lv_istore (lv' := [(7, .int r84), (9, .int r84), (8, .int y7), (6, .int y9), (0, .ref (ad 0)), (1, .ref (ad 341)), (2, .int x1), (3, .int x2), (4, .int x3), (5, .int x4)]) E.1 E.2.1 dX10_bestOf_102 hl (by decide) rfl (fun ls hl => ?_)
            refine lv_aload_n E.1 E.2.1 dX10_bestOf_104 rfl (lv_at hl 5 rfl) ?_
            refine lv_iload_n E.1 E.2.1 dX10_bestOf_105 rfl (lv_at hl 7 rfl) ?_
            refine t_iald E G 23 (rfl : ro 341 = 23) (by decide) (by decide) rfl (n := 6) rfl (iv_vp bx2 (by decide) (by decide)) dX10_bestOf_106 ?_
            refine lv_topi (fun v94 e95 => ?_)
            refine lv_istore (lv' := [(6, .int v94), (7, .int r84), (9, .int r84), (8, .int y7), (0, .ref (ad 0)), (1, .ref (ad 341)), (2, .int x1), (3, .int x2), (4, .int x3), (5, .int x4)]) E.1 E.2.1 dX10_bestOf_107 hl (by decide) rfl (fun ls hl => ?_)
            obtain ⟨v96, e97⟩ : ∃ w : Int32, w = y7 + (1 : Int32) := ⟨_, rfl⟩
            refine lv_iinc (v := v96) (lv' := [(8, .int v96), (6, .int v94), (7, .int r84), (9, .int r84), (0, .ref (ad 0)), (1, .ref (ad 341)), (2, .int x1), (3, .int x2), (4, .int x3), (5, .int x4)]) E.1 E.2.1 dX10_bestOf_109 hl (k := 3) rfl (by rw [e97]; rfl) (by decide) rfl (fun ls hl => ?_)
            have b98 : iv 1 8 v96 := by rw [e97]; exact iv_add b59 (iv_lit (lo := 1) (hi := 1) 1 (by decide) (by decide)) (by decide) (by decide) (by decide) (by decide)
            have t99 : v96.toInt = y7.toInt + 1 := by rw [e97]; exact ti_addc 1 (by decide) b59 (by decide) (by decide)
            refine lv_goto (tgt := 23) E.1 E.2.1 dX10_bestOf_112 (by decide) ?_
            exact ih23 zz74 v96 r84 v94 H locs ls G oo77 kk79 (iv_mono b98 (by decide) (by decide)) (by have := t99; have := m13; omega) (lv_sub hl [0, 2, 1, 4, 5, 6, 7, 8, 9] rfl)
  exact LOOP23 10 zz1 (-1) (-1) (-1) H locs ls G oo4 kk6 (iv_mono (iv_lit (lo := (-1)) (hi := (-1)) (-1) (by decide) (by decide)) (by decide) (by decide)) (by have := (iv_lit (lo := (-1)) (hi := (-1)) (-1) (by decide) (by decide)).1; omega) (lv_sub hl [0, 1, 2, 3, 4, 5, 6, 7, 8] rfl)
set_option maxHeartbeats 4000000 in
set_option maxRecDepth 100000 in
theorem k_choices_337 (l : Launch) (D : va_G) (K : Nat → ClassId) (ad : Nat → Nat) (z : TS) (o : Ok z) (x1 : Int32) (bx1 : iv 0 10 x1) (x2 : Int32) (bx2 : iv 0 4 x2) : cI l yX10_choicesThatAreSo cX10_choicesThatAreSo 6 .int ({ frames := 6, cells := 0, slots := 0, locals := 148 }) D K ad z [.ref (ad 0), .ref (ad 337), .int x1, .int x2] (fun r u => Ok u ∧ KC z u) := by
  refine t_enterI (by decide) (Nat.le_of_ble_eq_true rfl) rfl rfl ?_
  intro p e s m args below meth c A R Q H locs ls E hfr hlo RET G hl
  have E : mE p s m meth c cX10_choicesThatAreSo args 6 RX10 D K A := E
  have hl : lv_has ls 6 [(0, .ref (ad 0)), (1, .ref (ad 337)), (2, .int x1), (3, .int x2)] := hl
  refine lv_iconst (v := 0) E.1 E.2.1 dX10_choicesThatAreSo_0 (by decide) ?_
  refine lv_istore (lv' := [(4, .int 0), (0, .ref (ad 0)), (1, .ref (ad 337)), (2, .int x1), (3, .int x2)]) E.1 E.2.1 dX10_choicesThatAreSo_1 hl (by decide) rfl (fun ls hl => ?_)
  refine lv_aload_n E.1 E.2.1 dX10_choicesThatAreSo_3 rfl (lv_at hl 1 rfl) ?_
  refine t_get E G 10 12 (rfl : ro 0 = 10) (C := RX10) (T := TX10) (N := 17) rfl (by decide) (by decide) (by decide) mw_fl_10_83 (v := .ref (ad 335)) (fvl_o (n := 335) rfl) dX10_choicesThatAreSo_4 ?_
  refine lv_aload_n E.1 E.2.1 dX10_choicesThatAreSo_7 rfl (lv_at hl 1 rfl) ?_
  refine t_get E G 10 7 (rfl : ro 0 = 10) (C := RX10) (T := TX10) (N := 17) rfl (by decide) (by decide) (by decide) mw_fl_10_55 (v := .ref (ad 56)) (fvl_o (n := 56) rfl) dX10_choicesThatAreSo_8 ?_
  refine t_get E G 2 0 (rfl : ro 56 = 2) (C := RX2) (T := TX2) (N := 5) rfl (by decide) (by decide) (by decide) mw_fl_10_114 (v := .ref (ad 57)) (fvl_o (n := 1) rfl) dX10_choicesThatAreSo_11 ?_
  refine t_get E G 8 8 (rfl : ro 57 = 8) (C := RX8) (T := TX8) (N := 10) rfl (by decide) (by decide) (by decide) mw_fl_10_124 (v := .ref (ad 62)) (fvl_o (n := 5) rfl) dX10_choicesThatAreSo_14 ?_
  refine t_vv E G hl (s_copy l D K ad z o 335 (by decide : at_ 6 335 = true) 62 (by decide : at_ 6 62 = true)) 6 (rfl : ro 335 = 6) (by decide) rfl rfl 1 rfl mw_code_X6_copyFrom mw_ini_6 mw_ml_10_127 mw_inst_X6_copyFrom mw_sel_X6_copyFrom hd_X6_copyFrom ⟨Nat.le_trans (by decide) hfr, Nat.le_trans (by decide) hlo⟩ rfl rfl rfl (Nat.le_of_ble_eq_true rfl) dX10_choicesThatAreSo_17 (fun zz1 H locs hp3 G => ?_)
  obtain ⟨oo4, kk5⟩ := hp3
  have kk6 : KC z zz1 := KC.tr KC.rf kk5
  refine lv_iconst (v := 0) E.1 E.2.1 dX10_choicesThatAreSo_20 (by decide) ?_
  refine lv_istore (lv' := [(5, .int 0), (4, .int 0), (0, .ref (ad 0)), (1, .ref (ad 337)), (2, .int x1), (3, .int x2)]) E.1 E.2.1 dX10_choicesThatAreSo_21 hl (by decide) rfl (fun ls hl => ?_)
  have LOOP23 : ∀ n : Nat, ∀ (zz9 : TS) (y7 : Int32) (y8 : Int32) (H : Heap) (locs : List Loc) (ls : Array Slot), mG D A s H locs (wd K ad zz9) → Ok zz9 → KC z zz9 → iv 0 10 y7 → 10 < y7.toInt + (n : Int) → lv_has ls 6 [(5, .int y7), (4, .int y8), (0, .ref (ad 0)), (1, .ref (ad 337)), (2, .int x1), (3, .int x2)] → W p l e R s m args below meth c H locs 0 0 Q (F0 m 23 ls []) := by
    intro n
    induction n with
    | zero =>
      intro zz9 y7 y8 H locs ls G oo10 kk11 b13 m12 hl
      exact absurd m12 (by have := b13.1; have := b13.2; omega)
    | succ n ih23 =>
      intro zz9 y7 y8 H locs ls G oo10 kk11 b13 m12 hl
      refine lv_iload E.1 E.2.1 dX10_choicesThatAreSo_23 (lv_at hl 0 rfl) ?_
      refine lv_iload_n E.1 E.2.1 dX10_choicesThatAreSo_25 rfl (lv_at hl 4 rfl) ?_
      refine lv_icmp_ge (tgt := 64) E.1 E.2.1 dX10_choicesThatAreSo_26 (by decide) (fun c14 => ?_) (fun c14 => ?_)
      · skip
        refine lv_iload E.1 E.2.1 dX10_choicesThatAreSo_64 (lv_at hl 1 rfl) ?_
        exact RET G ⟨oo10, kk11⟩ rfl dX10_choicesThatAreSo_66
      · skip
        have b15 : iv 0 9 y7 := lt_l (Int32.not_le.mp c14) b13 bx1 (by decide)
        have b16 : iv 1 10 x1 := lt_r (Int32.not_le.mp c14) b13 bx1 (by decide)
        refine lv_aload_n E.1 E.2.1 dX10_choicesThatAreSo_29 rfl (lv_at hl 3 rfl) ?_
        refine lv_iload_n E.1 E.2.1 dX10_choicesThatAreSo_30 rfl (lv_at hl 5 rfl) ?_
        refine lv_iload E.1 E.2.1 dX10_choicesThatAreSo_31 (lv_at hl 0 rfl) ?_
        refine t_iast E G 22 (rfl : ro 337 = 22) (by decide) (by decide) rfl (n := 5) rfl (iv_vp bx2 (by decide) (by decide)) dX10_choicesThatAreSo_33 (fun H locs G => ?_)
        obtain ⟨zz17, G, oo18, kk19⟩ : ∃ u : TS, mG D A s H locs (wd K ad u) ∧ Ok u ∧ KC z u := ⟨_, G, ok_uc oo10 22 (rfl : ro 337 = 22) (by decide) (iv_mono b15 (by decide) (by decide)) (by decide), KC.tr kk11 (KC_r 22 (rfl : ro 337 = 22) (by decide))⟩
        refine lv_aload_n E.1 E.2.1 dX10_choicesThatAreSo_34 rfl (lv_at hl 2 rfl) ?_
        refine lv_aload_n E.1 E.2.1 dX10_choicesThatAreSo_35 rfl (lv_at hl 2 rfl) ?_
        refine t_vr E G hl (k_inForce l D K ad zz17 oo18) 10 (rfl : ro 0 = 10) (by decide) rfl rfl 0 rfl mw_code_X10_inForce mw_ini_10 mw_ml_10_296 mw_inst_X10_inForce mw_sel_X10_inForce hd_X10_inForce ⟨Nat.le_trans (by decide) hfr, Nat.le_trans (by decide) hlo⟩ rfl rfl rfl (Nat.le_of_ble_eq_true rfl) dX10_choicesThatAreSo_36 (fun r21 zz20 H locs hp22 G => ?_)
        obtain ⟨hz24, h23⟩ := hp22
        rw [hz24] at G
        refine lv_aload_n E.1 E.2.1 dX10_choicesThatAreSo_39 rfl (lv_at hl 2 rfl) ?_
        refine t_get E G 10 12 (rfl : ro 0 = 10) (C := RX10) (T := TX10) (N := 17) rfl (by decide) (by decide) (by decide) mw_fl_10_83 (v := .ref (ad 335)) (fvl_o (n := 335) rfl) dX10_choicesThatAreSo_40 ?_
        refine t_vi E G hl (k_notesAreSo l D K ad zz17 oo18 r21 h23 335 (by decide : at_ 6 335 = true)) 10 (rfl : ro 0 = 10) (by decide) rfl rfl 2 rfl mw_code_X10_notesAreSo mw_ini_10 mw_ml_10_322 mw_inst_X10_notesAreSo mw_sel_X10_notesAreSo hd_X10_notesAreSo ⟨Nat.le_trans (by decide) hfr, Nat.le_trans (by decide) hlo⟩ rfl rfl rfl (Nat.le_of_ble_eq_true rfl) dX10_choicesThatAreSo_43 (fun r26 zz25 H locs hp27 G => ?_)
        obtain ⟨oo28, kk29, b30⟩ := hp27
        have kk31 : KC z zz25 := KC.tr kk19 kk29
        refine lv_if_eq (tgt := 58) E.1 E.2.1 dX10_choicesThatAreSo_46 (by decide) (fun c32 => ?_) (fun c32 => ?_)
        · skip
          have b33 : iv 0 0 r26 := iv_eq c32 (iv_lit (lo := 0) (hi := 0) 0 (by decide) (by decide))
          obtain ⟨v34, e35⟩ : ∃ w : Int32, w = y7 + (1 : Int32) := ⟨_, rfl⟩
          refine lv_iinc (v := v34) (lv' := [(5, .int v34), (4, .int y8), (0, .ref (ad 0)), (1, .ref (ad 337)), (2, .int x1), (3, .int x2)]) E.1 E.2.1 dX10_choicesThatAreSo_58 hl (k := 0) rfl (by rw [e35]; rfl) (by decide) rfl (fun ls hl => ?_)
          have b36 : iv 1 10 v34 := by rw [e35]; exact iv_add b15 (iv_lit (lo := 1) (hi := 1) 1 (by decide) (by decide)) (by decide) (by decide) (by decide) (by decide)
          have t37 : v34.toInt = y7.toInt + 1 := by rw [e35]; exact ti_addc 1 (by decide) b15 (by decide) (by decide)
          refine lv_goto (tgt := 23) E.1 E.2.1 dX10_choicesThatAreSo_61 (by decide) ?_
          exact ih23 zz25 v34 y8 H locs ls G oo28 kk31 (iv_mono b36 (by decide) (by decide)) (by have := t37; have := m12; omega) (lv_sub hl [0, 1, 2, 3, 4, 5] rfl)
        · skip
          have b38 : iv 1 1 r26 := ne_lo c32 b30 (by decide) (by decide)
          refine lv_iload E.1 E.2.1 dX10_choicesThatAreSo_49 (lv_at hl 1 rfl) ?_
          refine lv_iconst (v := 1) E.1 E.2.1 dX10_choicesThatAreSo_51 (by decide) ?_
          refine lv_iload E.1 E.2.1 dX10_choicesThatAreSo_52 (lv_at hl 0 rfl) ?_
          refine lv_ishl E.1 E.2.1 dX10_choicesThatAreSo_54 ?_
          refine lv_topi (fun v39 e40 => ?_)
          refine lv_ior E.1 E.2.1 dX10_choicesThatAreSo_55 ?_
          refine lv_topi (fun v41 e42 => ?_)
          refine lv_istore (lv' := [(4, .int v41), (5, .int y7), (0, .ref (ad 0)), (1, .ref (ad 337)), (2, .int x1), (3, .int x2)]) E.1 E.2.1 dX10_choicesThatAreSo_56 hl (by decide) rfl (fun ls hl => ?_)
          obtain ⟨v43, e44⟩ : ∃ w : Int32, w = y7 + (1 : Int32) := ⟨_, rfl⟩
          refine lv_iinc (v := v43) (lv' := [(5, .int v43), (4, .int v41), (0, .ref (ad 0)), (1, .ref (ad 337)), (2, .int x1), (3, .int x2)]) E.1 E.2.1 dX10_choicesThatAreSo_58 hl (k := 1) rfl (by rw [e44]; rfl) (by decide) rfl (fun ls hl => ?_)
          have b45 : iv 1 10 v43 := by rw [e44]; exact iv_add b15 (iv_lit (lo := 1) (hi := 1) 1 (by decide) (by decide)) (by decide) (by decide) (by decide) (by decide)
          have t46 : v43.toInt = y7.toInt + 1 := by rw [e44]; exact ti_addc 1 (by decide) b15 (by decide) (by decide)
          refine lv_goto (tgt := 23) E.1 E.2.1 dX10_choicesThatAreSo_61 (by decide) ?_
          exact ih23 zz25 v43 v41 H locs ls G oo28 kk31 (iv_mono b45 (by decide) (by decide)) (by have := t46; have := m12; omega) (lv_sub hl [0, 1, 2, 3, 4, 5] rfl)
  exact LOOP23 11 zz1 0 0 H locs ls G oo4 kk6 (iv_mono (iv_lit (lo := 0) (hi := 0) 0 (by decide) (by decide)) (by decide) (by decide)) (by have := (iv_lit (lo := 0) (hi := 0) 0 (by decide) (by decide)).1; omega) (lv_sub hl [0, 1, 2, 3, 4, 5] rfl)
set_option maxHeartbeats 4000000 in
set_option maxRecDepth 100000 in
theorem k_choices_338 (l : Launch) (D : va_G) (K : Nat → ClassId) (ad : Nat → Nat) (z : TS) (o : Ok z) (x1 : Int32) (bx1 : iv 0 10 x1) (x2 : Int32) (bx2 : iv 0 4 x2) : cI l yX10_choicesThatAreSo cX10_choicesThatAreSo 6 .int ({ frames := 6, cells := 0, slots := 0, locals := 148 }) D K ad z [.ref (ad 0), .ref (ad 338), .int x1, .int x2] (fun r u => Ok u ∧ KC z u) := by
  refine t_enterI (by decide) (Nat.le_of_ble_eq_true rfl) rfl rfl ?_
  intro p e s m args below meth c A R Q H locs ls E hfr hlo RET G hl
  have E : mE p s m meth c cX10_choicesThatAreSo args 6 RX10 D K A := E
  have hl : lv_has ls 6 [(0, .ref (ad 0)), (1, .ref (ad 338)), (2, .int x1), (3, .int x2)] := hl
  refine lv_iconst (v := 0) E.1 E.2.1 dX10_choicesThatAreSo_0 (by decide) ?_
  refine lv_istore (lv' := [(4, .int 0), (0, .ref (ad 0)), (1, .ref (ad 338)), (2, .int x1), (3, .int x2)]) E.1 E.2.1 dX10_choicesThatAreSo_1 hl (by decide) rfl (fun ls hl => ?_)
  refine lv_aload_n E.1 E.2.1 dX10_choicesThatAreSo_3 rfl (lv_at hl 1 rfl) ?_
  refine t_get E G 10 12 (rfl : ro 0 = 10) (C := RX10) (T := TX10) (N := 17) rfl (by decide) (by decide) (by decide) mw_fl_10_83 (v := .ref (ad 335)) (fvl_o (n := 335) rfl) dX10_choicesThatAreSo_4 ?_
  refine lv_aload_n E.1 E.2.1 dX10_choicesThatAreSo_7 rfl (lv_at hl 1 rfl) ?_
  refine t_get E G 10 7 (rfl : ro 0 = 10) (C := RX10) (T := TX10) (N := 17) rfl (by decide) (by decide) (by decide) mw_fl_10_55 (v := .ref (ad 56)) (fvl_o (n := 56) rfl) dX10_choicesThatAreSo_8 ?_
  refine t_get E G 2 0 (rfl : ro 56 = 2) (C := RX2) (T := TX2) (N := 5) rfl (by decide) (by decide) (by decide) mw_fl_10_114 (v := .ref (ad 57)) (fvl_o (n := 1) rfl) dX10_choicesThatAreSo_11 ?_
  refine t_get E G 8 8 (rfl : ro 57 = 8) (C := RX8) (T := TX8) (N := 10) rfl (by decide) (by decide) (by decide) mw_fl_10_124 (v := .ref (ad 62)) (fvl_o (n := 5) rfl) dX10_choicesThatAreSo_14 ?_
  refine t_vv E G hl (s_copy l D K ad z o 335 (by decide : at_ 6 335 = true) 62 (by decide : at_ 6 62 = true)) 6 (rfl : ro 335 = 6) (by decide) rfl rfl 1 rfl mw_code_X6_copyFrom mw_ini_6 mw_ml_10_127 mw_inst_X6_copyFrom mw_sel_X6_copyFrom hd_X6_copyFrom ⟨Nat.le_trans (by decide) hfr, Nat.le_trans (by decide) hlo⟩ rfl rfl rfl (Nat.le_of_ble_eq_true rfl) dX10_choicesThatAreSo_17 (fun zz1 H locs hp3 G => ?_)
  obtain ⟨oo4, kk5⟩ := hp3
  have kk6 : KC z zz1 := KC.tr KC.rf kk5
  refine lv_iconst (v := 0) E.1 E.2.1 dX10_choicesThatAreSo_20 (by decide) ?_
  refine lv_istore (lv' := [(5, .int 0), (4, .int 0), (0, .ref (ad 0)), (1, .ref (ad 338)), (2, .int x1), (3, .int x2)]) E.1 E.2.1 dX10_choicesThatAreSo_21 hl (by decide) rfl (fun ls hl => ?_)
  have LOOP23 : ∀ n : Nat, ∀ (zz9 : TS) (y7 : Int32) (y8 : Int32) (H : Heap) (locs : List Loc) (ls : Array Slot), mG D A s H locs (wd K ad zz9) → Ok zz9 → KC z zz9 → iv 0 10 y7 → 10 < y7.toInt + (n : Int) → lv_has ls 6 [(5, .int y7), (4, .int y8), (0, .ref (ad 0)), (1, .ref (ad 338)), (2, .int x1), (3, .int x2)] → W p l e R s m args below meth c H locs 0 0 Q (F0 m 23 ls []) := by
    intro n
    induction n with
    | zero =>
      intro zz9 y7 y8 H locs ls G oo10 kk11 b13 m12 hl
      exact absurd m12 (by have := b13.1; have := b13.2; omega)
    | succ n ih23 =>
      intro zz9 y7 y8 H locs ls G oo10 kk11 b13 m12 hl
      refine lv_iload E.1 E.2.1 dX10_choicesThatAreSo_23 (lv_at hl 0 rfl) ?_
      refine lv_iload_n E.1 E.2.1 dX10_choicesThatAreSo_25 rfl (lv_at hl 4 rfl) ?_
      refine lv_icmp_ge (tgt := 64) E.1 E.2.1 dX10_choicesThatAreSo_26 (by decide) (fun c14 => ?_) (fun c14 => ?_)
      · skip
        refine lv_iload E.1 E.2.1 dX10_choicesThatAreSo_64 (lv_at hl 1 rfl) ?_
        exact RET G ⟨oo10, kk11⟩ rfl dX10_choicesThatAreSo_66
      · skip
        have b15 : iv 0 9 y7 := lt_l (Int32.not_le.mp c14) b13 bx1 (by decide)
        have b16 : iv 1 10 x1 := lt_r (Int32.not_le.mp c14) b13 bx1 (by decide)
        refine lv_aload_n E.1 E.2.1 dX10_choicesThatAreSo_29 rfl (lv_at hl 3 rfl) ?_
        refine lv_iload_n E.1 E.2.1 dX10_choicesThatAreSo_30 rfl (lv_at hl 5 rfl) ?_
        refine lv_iload E.1 E.2.1 dX10_choicesThatAreSo_31 (lv_at hl 0 rfl) ?_
        refine t_iast E G 22 (rfl : ro 338 = 22) (by decide) (by decide) rfl (n := 5) rfl (iv_vp bx2 (by decide) (by decide)) dX10_choicesThatAreSo_33 (fun H locs G => ?_)
        obtain ⟨zz17, G, oo18, kk19⟩ : ∃ u : TS, mG D A s H locs (wd K ad u) ∧ Ok u ∧ KC z u := ⟨_, G, ok_uc oo10 22 (rfl : ro 338 = 22) (by decide) (iv_mono b15 (by decide) (by decide)) (by decide), KC.tr kk11 (KC_r 22 (rfl : ro 338 = 22) (by decide))⟩
        refine lv_aload_n E.1 E.2.1 dX10_choicesThatAreSo_34 rfl (lv_at hl 2 rfl) ?_
        refine lv_aload_n E.1 E.2.1 dX10_choicesThatAreSo_35 rfl (lv_at hl 2 rfl) ?_
        refine t_vr E G hl (k_inForce l D K ad zz17 oo18) 10 (rfl : ro 0 = 10) (by decide) rfl rfl 0 rfl mw_code_X10_inForce mw_ini_10 mw_ml_10_296 mw_inst_X10_inForce mw_sel_X10_inForce hd_X10_inForce ⟨Nat.le_trans (by decide) hfr, Nat.le_trans (by decide) hlo⟩ rfl rfl rfl (Nat.le_of_ble_eq_true rfl) dX10_choicesThatAreSo_36 (fun r21 zz20 H locs hp22 G => ?_)
        obtain ⟨hz24, h23⟩ := hp22
        rw [hz24] at G
        refine lv_aload_n E.1 E.2.1 dX10_choicesThatAreSo_39 rfl (lv_at hl 2 rfl) ?_
        refine t_get E G 10 12 (rfl : ro 0 = 10) (C := RX10) (T := TX10) (N := 17) rfl (by decide) (by decide) (by decide) mw_fl_10_83 (v := .ref (ad 335)) (fvl_o (n := 335) rfl) dX10_choicesThatAreSo_40 ?_
        refine t_vi E G hl (k_notesAreSo l D K ad zz17 oo18 r21 h23 335 (by decide : at_ 6 335 = true)) 10 (rfl : ro 0 = 10) (by decide) rfl rfl 2 rfl mw_code_X10_notesAreSo mw_ini_10 mw_ml_10_322 mw_inst_X10_notesAreSo mw_sel_X10_notesAreSo hd_X10_notesAreSo ⟨Nat.le_trans (by decide) hfr, Nat.le_trans (by decide) hlo⟩ rfl rfl rfl (Nat.le_of_ble_eq_true rfl) dX10_choicesThatAreSo_43 (fun r26 zz25 H locs hp27 G => ?_)
        obtain ⟨oo28, kk29, b30⟩ := hp27
        have kk31 : KC z zz25 := KC.tr kk19 kk29
        refine lv_if_eq (tgt := 58) E.1 E.2.1 dX10_choicesThatAreSo_46 (by decide) (fun c32 => ?_) (fun c32 => ?_)
        · skip
          have b33 : iv 0 0 r26 := iv_eq c32 (iv_lit (lo := 0) (hi := 0) 0 (by decide) (by decide))
          obtain ⟨v34, e35⟩ : ∃ w : Int32, w = y7 + (1 : Int32) := ⟨_, rfl⟩
          refine lv_iinc (v := v34) (lv' := [(5, .int v34), (4, .int y8), (0, .ref (ad 0)), (1, .ref (ad 338)), (2, .int x1), (3, .int x2)]) E.1 E.2.1 dX10_choicesThatAreSo_58 hl (k := 0) rfl (by rw [e35]; rfl) (by decide) rfl (fun ls hl => ?_)
          have b36 : iv 1 10 v34 := by rw [e35]; exact iv_add b15 (iv_lit (lo := 1) (hi := 1) 1 (by decide) (by decide)) (by decide) (by decide) (by decide) (by decide)
          have t37 : v34.toInt = y7.toInt + 1 := by rw [e35]; exact ti_addc 1 (by decide) b15 (by decide) (by decide)
          refine lv_goto (tgt := 23) E.1 E.2.1 dX10_choicesThatAreSo_61 (by decide) ?_
          exact ih23 zz25 v34 y8 H locs ls G oo28 kk31 (iv_mono b36 (by decide) (by decide)) (by have := t37; have := m12; omega) (lv_sub hl [0, 1, 2, 3, 4, 5] rfl)
        · skip
          have b38 : iv 1 1 r26 := ne_lo c32 b30 (by decide) (by decide)
          refine lv_iload E.1 E.2.1 dX10_choicesThatAreSo_49 (lv_at hl 1 rfl) ?_
          refine lv_iconst (v := 1) E.1 E.2.1 dX10_choicesThatAreSo_51 (by decide) ?_
          refine lv_iload E.1 E.2.1 dX10_choicesThatAreSo_52 (lv_at hl 0 rfl) ?_
          refine lv_ishl E.1 E.2.1 dX10_choicesThatAreSo_54 ?_
          refine lv_topi (fun v39 e40 => ?_)
          refine lv_ior E.1 E.2.1 dX10_choicesThatAreSo_55 ?_
          refine lv_topi (fun v41 e42 => ?_)
          refine lv_istore (lv' := [(4, .int v41), (5, .int y7), (0, .ref (ad 0)), (1, .ref (ad 338)), (2, .int x1), (3, .int x2)]) E.1 E.2.1 dX10_choicesThatAreSo_56 hl (by decide) rfl (fun ls hl => ?_)
          obtain ⟨v43, e44⟩ : ∃ w : Int32, w = y7 + (1 : Int32) := ⟨_, rfl⟩
          refine lv_iinc (v := v43) (lv' := [(5, .int v43), (4, .int v41), (0, .ref (ad 0)), (1, .ref (ad 338)), (2, .int x1), (3, .int x2)]) E.1 E.2.1 dX10_choicesThatAreSo_58 hl (k := 1) rfl (by rw [e44]; rfl) (by decide) rfl (fun ls hl => ?_)
          have b45 : iv 1 10 v43 := by rw [e44]; exact iv_add b15 (iv_lit (lo := 1) (hi := 1) 1 (by decide) (by decide)) (by decide) (by decide) (by decide) (by decide)
          have t46 : v43.toInt = y7.toInt + 1 := by rw [e44]; exact ti_addc 1 (by decide) b15 (by decide) (by decide)
          refine lv_goto (tgt := 23) E.1 E.2.1 dX10_choicesThatAreSo_61 (by decide) ?_
          exact ih23 zz25 v43 v41 H locs ls G oo28 kk31 (iv_mono b45 (by decide) (by decide)) (by have := t46; have := m12; omega) (lv_sub hl [0, 1, 2, 3, 4, 5] rfl)
  exact LOOP23 11 zz1 0 0 H locs ls G oo4 kk6 (iv_mono (iv_lit (lo := 0) (hi := 0) 0 (by decide) (by decide)) (by decide) (by decide)) (by have := (iv_lit (lo := 0) (hi := 0) 0 (by decide) (by decide)).1; omega) (lv_sub hl [0, 1, 2, 3, 4, 5] rfl)
set_option maxHeartbeats 4000000 in
set_option maxRecDepth 100000 in
theorem k_weighTwos (l : Launch) (D : va_G) (K : Nat → ClassId) (ad : Nat → Nat) (z : TS) (o : Ok z) (x1 : Int32) (bx1 : iv 0 5 x1) (x2 : Int32) (bx2 : iv 0 5 x2) (x3 : Int32) (bx3 : iv 1 20 x3) : cV l yX10_weighTwos cX10_weighTwos 6 ({ frames := 6, cells := 0, slots := 0, locals := 146 }) D K ad z [.ref (ad 0), .int x1, .int x2, .int x3] (fun u => Ok u ∧ KC z u) := by
  refine t_enterV (by decide) (Nat.le_of_ble_eq_true rfl) rfl rfl ?_
  intro p e s m args below meth c A R Q H locs ls E hfr hlo RET G hl
  have E : mE p s m meth c cX10_weighTwos args 6 RX10 D K A := E
  have hl : lv_has ls 6 [(0, .ref (ad 0)), (1, .int x1), (2, .int x2), (3, .int x3)] := hl
  refine lv_aload_n E.1 E.2.1 dX10_weighTwos_0 rfl (lv_at hl 0 rfl) ?_
  refine t_get E G 10 12 (rfl : ro 0 = 10) (C := RX10) (T := TX10) (N := 17) rfl (by decide) (by decide) (by decide) mw_fl_10_83 (v := .ref (ad 335)) (fvl_o (n := 335) rfl) dX10_weighTwos_1 ?_
  refine lv_aload_n E.1 E.2.1 dX10_weighTwos_4 rfl (lv_at hl 0 rfl) ?_
  refine t_get E G 10 7 (rfl : ro 0 = 10) (C := RX10) (T := TX10) (N := 17) rfl (by decide) (by decide) (by decide) mw_fl_10_55 (v := .ref (ad 56)) (fvl_o (n := 56) rfl) dX10_weighTwos_5 ?_
  refine t_get E G 2 1 (rfl : ro 56 = 2) (C := RX2) (T := TX2) (N := 5) rfl (by decide) (by decide) (by decide) mw_fl_10_121 (v := .ref (ad 70)) (fvl_o (n := 14) rfl) dX10_weighTwos_8 ?_
  refine t_vv E G hl (s_copy l D K ad z o 335 (by decide : at_ 6 335 = true) 70 (by decide : at_ 6 70 = true)) 6 (rfl : ro 335 = 6) (by decide) rfl rfl 1 rfl mw_code_X6_copyFrom mw_ini_6 mw_ml_10_127 mw_inst_X6_copyFrom mw_sel_X6_copyFrom hd_X6_copyFrom ⟨Nat.le_trans (by decide) hfr, Nat.le_trans (by decide) hlo⟩ rfl rfl rfl (Nat.le_of_ble_eq_true rfl) dX10_weighTwos_11 (fun zz1 H locs hp3 G => ?_)
  obtain ⟨oo4, kk5⟩ := hp3
  have kk6 : KC z zz1 := KC.tr KC.rf kk5
  refine lv_iconst (v := 0) E.1 E.2.1 dX10_weighTwos_14 (by decide) ?_
  refine lv_istore (lv' := [(4, .int 0), (0, .ref (ad 0)), (1, .int x1), (2, .int x2), (3, .int x3)]) E.1 E.2.1 dX10_weighTwos_15 hl (by decide) rfl (fun ls hl => ?_)
  have LOOP17 : ∀ n : Nat, ∀ (zz8 : TS) (y7 : Int32) (H : Heap) (locs : List Loc) (ls : Array Slot), mG D A s H locs (wd K ad zz8) → Ok zz8 → KC z zz8 → iv 0 8 y7 → 8 < y7.toInt + (n : Int) → lv_has ls 6 [(4, .int y7), (0, .ref (ad 0)), (1, .int x1), (2, .int x2), (3, .int x3)] → W p l e R s m args below meth c H locs 0 0 Q (F0 m 17 ls []) := by
    intro n
    induction n with
    | zero =>
      intro zz8 y7 H locs ls G oo9 kk10 b12 m11 hl
      exact absurd m11 (by have := b12.1; have := b12.2; omega)
    | succ n ih17 =>
      intro zz8 y7 H locs ls G oo9 kk10 b12 m11 hl
      refine lv_iload E.1 E.2.1 dX10_weighTwos_17 (lv_at hl 0 rfl) ?_
      refine lv_aload_n E.1 E.2.1 dX10_weighTwos_19 rfl (lv_at hl 1 rfl) ?_
      refine t_get E G 10 7 (rfl : ro 0 = 10) (C := RX10) (T := TX10) (N := 17) rfl (by decide) (by decide) (by decide) mw_fl_10_55 (v := .ref (ad 56)) (fvl_o (n := 56) rfl) dX10_weighTwos_20 ?_
      refine t_get E G 2 0 (rfl : ro 56 = 2) (C := RX2) (T := TX2) (N := 5) rfl (by decide) (by decide) (by decide) mw_fl_10_114 (v := .ref (ad 57)) (fvl_o (n := 1) rfl) dX10_weighTwos_23 ?_
      refine t_get E G 8 0 (rfl : ro 57 = 8) (C := RX8) (T := TX8) (N := 10) rfl (by decide) (by decide) (by decide) mw_fl_10_192 (fvl_i rfl) dX10_weighTwos_26 ?_
      refine lv_topi (fun v13 e14 => ?_)
      have b15 : iv 0 8 v13 := by rw [e14]; exact oo9.i 8 0 (rfl : ro 57 = 8)
      refine lv_icmp_ge (tgt := 156) E.1 E.2.1 dX10_weighTwos_29 (by decide) (fun c16 => ?_) (fun c16 => ?_)
      · skip
        exact RET G ⟨oo9, kk10⟩ dX10_weighTwos_156
      · skip
        have b17 : iv 0 7 y7 := lt_l (Int32.not_le.mp c16) b12 b15 (by decide)
        have b18 : iv 1 8 v13 := lt_r (Int32.not_le.mp c16) b12 b15 (by decide)
        refine lv_iconst (v := 0) E.1 E.2.1 dX10_weighTwos_32 (by decide) ?_
        refine lv_istore (lv' := [(5, .int 0), (4, .int y7), (0, .ref (ad 0)), (1, .int x1), (2, .int x2), (3, .int x3)]) E.1 E.2.1 dX10_weighTwos_33 hl (by decide) rfl (fun ls hl => ?_)
        have LOOP35 : ∀ n : Nat, ∀ (zz20 : TS) (y19 : Int32) (H : Heap) (locs : List Loc) (ls : Array Slot), mG D A s H locs (wd K ad zz20) → Ok zz20 → KC z zz20 → iv 0 8 y19 → 8 < y19.toInt + (n : Int) → lv_has ls 6 [(5, .int y19), (4, .int y7), (0, .ref (ad 0)), (1, .int x1), (2, .int x2), (3, .int x3)] → W p l e R s m args below meth c H locs 0 0 Q (F0 m 35 ls []) := by
          intro n
          induction n with
          | zero =>
            intro zz20 y19 H locs ls G oo21 kk22 b24 m23 hl
            exact absurd m23 (by have := b24.1; have := b24.2; omega)
          | succ n ih35 =>
            intro zz20 y19 H locs ls G oo21 kk22 b24 m23 hl
            refine lv_iload E.1 E.2.1 dX10_weighTwos_35 (lv_at hl 0 rfl) ?_
            refine lv_aload_n E.1 E.2.1 dX10_weighTwos_37 rfl (lv_at hl 2 rfl) ?_
            refine t_get E G 10 7 (rfl : ro 0 = 10) (C := RX10) (T := TX10) (N := 17) rfl (by decide) (by decide) (by decide) mw_fl_10_55 (v := .ref (ad 56)) (fvl_o (n := 56) rfl) dX10_weighTwos_38 ?_
            refine t_get E G 2 0 (rfl : ro 56 = 2) (C := RX2) (T := TX2) (N := 5) rfl (by decide) (by decide) (by decide) mw_fl_10_114 (v := .ref (ad 57)) (fvl_o (n := 1) rfl) dX10_weighTwos_41 ?_
            refine t_get E G 8 0 (rfl : ro 57 = 8) (C := RX8) (T := TX8) (N := 10) rfl (by decide) (by decide) (by decide) mw_fl_10_192 (fvl_i rfl) dX10_weighTwos_44 ?_
            refine lv_topi (fun v25 e26 => ?_)
            have b27 : iv 0 8 v25 := by rw [e26]; exact oo21.i 8 0 (rfl : ro 57 = 8)
            refine lv_icmp_ge (tgt := 150) E.1 E.2.1 dX10_weighTwos_47 (by decide) (fun c28 => ?_) (fun c28 => ?_)
            · skip
              obtain ⟨v29, e30⟩ : ∃ w : Int32, w = y7 + (1 : Int32) := ⟨_, rfl⟩
              refine lv_iinc (v := v29) (lv' := [(4, .int v29), (5, .int y19), (0, .ref (ad 0)), (1, .int x1), (2, .int x2), (3, .int x3)]) E.1 E.2.1 dX10_weighTwos_150 hl (k := 1) rfl (by rw [e30]; rfl) (by decide) rfl (fun ls hl => ?_)
              have b31 : iv 1 8 v29 := by rw [e30]; exact iv_add b17 (iv_lit (lo := 1) (hi := 1) 1 (by decide) (by decide)) (by decide) (by decide) (by decide) (by decide)
              have t32 : v29.toInt = y7.toInt + 1 := by rw [e30]; exact ti_addc 1 (by decide) b17 (by decide) (by decide)
              refine lv_goto (tgt := 17) E.1 E.2.1 dX10_weighTwos_153 (by decide) ?_
              exact ih17 zz20 v29 H locs ls G oo21 kk22 (iv_mono b31 (by decide) (by decide)) (by have := t32; have := m11; omega) (lv_sub hl [0, 2, 3, 4, 5] rfl)
            · skip
              have b33 : iv 0 7 y19 := lt_l (Int32.not_le.mp c28) b24 b27 (by decide)
              have b34 : iv 1 8 v25 := lt_r (Int32.not_le.mp c28) b24 b27 (by decide)
              refine lv_aload_n E.1 E.2.1 dX10_weighTwos_50 rfl (lv_at hl 2 rfl) ?_
              refine t_get E G 10 12 (rfl : ro 0 = 10) (C := RX10) (T := TX10) (N := 17) rfl (by decide) (by decide) (by decide) mw_fl_10_83 (v := .ref (ad 335)) (fvl_o (n := 335) rfl) dX10_weighTwos_51 ?_
              refine t_get E G 6 4 (rfl : ro 335 = 6) (C := RX6) (T := TX6) (N := 8) rfl (by decide) (by decide) (by decide) mw_fl_10_153 (v := .ref (ad 340)) (fvl_o (n := 5) rfl) dX10_weighTwos_54 ?_
              refine lv_iload_n E.1 E.2.1 dX10_weighTwos_57 rfl (lv_at hl 3 rfl) ?_
              refine lv_iload E.1 E.2.1 dX10_weighTwos_58 (lv_at hl 1 rfl) ?_
              refine t_iast E G 23 (rfl : ro 340 = 23) (by decide) (by decide) rfl (n := 6) rfl (iv_vp bx1 (by decide) (by decide)) dX10_weighTwos_60 (fun H locs G => ?_)
              obtain ⟨zz35, G, oo36, kk37, h38⟩ : ∃ u : TS, mG D A s H locs (wd K ad u) ∧ Ok u ∧ KC z u ∧ tI u 57 0 = v25 := ⟨_, G, ok_uc oo21 23 (rfl : ro 340 = 23) (by decide) (iv_mono b17 (by decide) (by decide)) (by decide), KC.tr kk22 (KC_r 23 (rfl : ro 340 = 23) (by decide)), e26.symm⟩
              refine lv_aload_n E.1 E.2.1 dX10_weighTwos_61 rfl (lv_at hl 2 rfl) ?_
              refine t_get E G 10 12 (rfl : ro 0 = 10) (C := RX10) (T := TX10) (N := 17) rfl (by decide) (by decide) (by decide) mw_fl_10_83 (v := .ref (ad 335)) (fvl_o (n := 335) rfl) dX10_weighTwos_62 ?_
              refine t_get E G 6 4 (rfl : ro 335 = 6) (C := RX6) (T := TX6) (N := 8) rfl (by decide) (by decide) (by decide) mw_fl_10_153 (v := .ref (ad 340)) (fvl_o (n := 5) rfl) dX10_weighTwos_65 ?_
              refine lv_iload_n E.1 E.2.1 dX10_weighTwos_68 rfl (lv_at hl 4 rfl) ?_
              refine lv_iload E.1 E.2.1 dX10_weighTwos_69 (lv_at hl 0 rfl) ?_
              refine t_iast E G 23 (rfl : ro 340 = 23) (by decide) (by decide) rfl (n := 6) rfl (iv_vp bx2 (by decide) (by decide)) dX10_weighTwos_71 (fun H locs G => ?_)
              obtain ⟨zz39, G, oo40, kk41, h42⟩ : ∃ u : TS, mG D A s H locs (wd K ad u) ∧ Ok u ∧ KC z u ∧ tI u 57 0 = v25 := ⟨_, G, ok_uc oo36 23 (rfl : ro 340 = 23) (by decide) (iv_mono b33 (by decide) (by decide)) (by decide), KC.tr kk37 (KC_r 23 (rfl : ro 340 = 23) (by decide)), h38⟩
              refine lv_aload_n E.1 E.2.1 dX10_weighTwos_72 rfl (lv_at hl 2 rfl) ?_
              refine t_get E G 10 11 (rfl : ro 0 = 10) (C := RX10) (T := TX10) (N := 17) rfl (by decide) (by decide) (by decide) mw_fl_10_76 (v := .ref (ad 324)) (fvl_o (n := 324) rfl) dX10_weighTwos_73 ?_
              refine lv_aload_n E.1 E.2.1 dX10_weighTwos_76 rfl (lv_at hl 2 rfl) ?_
              refine t_get E G 10 7 (rfl : ro 0 = 10) (C := RX10) (T := TX10) (N := 17) rfl (by decide) (by decide) (by decide) mw_fl_10_55 (v := .ref (ad 56)) (fvl_o (n := 56) rfl) dX10_weighTwos_77 ?_
              refine t_get E G 2 0 (rfl : ro 56 = 2) (C := RX2) (T := TX2) (N := 5) rfl (by decide) (by decide) (by decide) mw_fl_10_114 (v := .ref (ad 57)) (fvl_o (n := 1) rfl) dX10_weighTwos_80 ?_
              refine lv_aload_n E.1 E.2.1 dX10_weighTwos_83 rfl (lv_at hl 2 rfl) ?_
              refine t_vr E G hl (k_inForce l D K ad zz39 oo40) 10 (rfl : ro 0 = 10) (by decide) rfl rfl 0 rfl mw_code_X10_inForce mw_ini_10 mw_ml_10_296 mw_inst_X10_inForce mw_sel_X10_inForce hd_X10_inForce ⟨Nat.le_trans (by decide) hfr, Nat.le_trans (by decide) hlo⟩ rfl rfl rfl (Nat.le_of_ble_eq_true rfl) dX10_weighTwos_84 (fun r44 zz43 H locs hp45 G => ?_)
              obtain ⟨hz47, h46⟩ := hp45
              rw [hz47] at G
              refine lv_aload_n E.1 E.2.1 dX10_weighTwos_87 rfl (lv_at hl 2 rfl) ?_
              refine t_get E G 10 12 (rfl : ro 0 = 10) (C := RX10) (T := TX10) (N := 17) rfl (by decide) (by decide) (by decide) mw_fl_10_83 (v := .ref (ad 335)) (fvl_o (n := 335) rfl) dX10_weighTwos_88 ?_
              refine t_vv E G hl (c_start l D K ad zz39 oo40 57 (by decide : at_ 8 57 = true) r44 h46 335 (by decide : at_ 6 335 = true)) 1 (rfl : ro 324 = 1) (by decide) rfl rfl 3 rfl mw_code_X1_start mw_ini_1 mw_ml_10_299 mw_inst_X1_start mw_sel_X1_start hd_X1_start ⟨Nat.le_trans (by decide) hfr, Nat.le_trans (by decide) hlo⟩ rfl rfl rfl (Nat.le_of_ble_eq_true rfl) dX10_weighTwos_91 (fun zz48 H locs hp50 G => ?_)
              obtain ⟨oo51, kk52⟩ := hp50
              have kk53 : KC z zz48 := KC.tr kk41 kk52
              refine lv_aload_n E.1 E.2.1 dX10_weighTwos_94 rfl (lv_at hl 2 rfl) ?_
              refine t_get E G 10 11 (rfl : ro 0 = 10) (C := RX10) (T := TX10) (N := 17) rfl (by decide) (by decide) (by decide) mw_fl_10_76 (v := .ref (ad 324)) (fvl_o (n := 324) rfl) dX10_weighTwos_95 ?_
              refine lv_iload_n E.1 E.2.1 dX10_weighTwos_98 rfl (lv_at hl 5 rfl) ?_
              refine t_vv E G hl (c_goSteps l D K ad zz48 oo51 x3 (iv_mono bx3 (by decide) (by decide))) 1 (rfl : ro 324 = 1) (by decide) rfl rfl 1 rfl mw_code_X1_goSteps mw_ini_1 mw_ml_10_242 mw_inst_X1_goSteps mw_sel_X1_goSteps hd_X1_goSteps ⟨Nat.le_trans (by decide) hfr, Nat.le_trans (by decide) hlo⟩ rfl rfl rfl (Nat.le_of_ble_eq_true rfl) dX10_weighTwos_99 (fun zz54 H locs hp56 G => ?_)
              obtain ⟨oo57, kk58⟩ := hp56
              have kk59 : KC z zz54 := KC.tr kk53 kk58
              refine lv_aload_n E.1 E.2.1 dX10_weighTwos_102 rfl (lv_at hl 2 rfl) ?_
              refine t_get E G 10 15 (rfl : ro 0 = 10) (C := RX10) (T := TX10) (N := 17) rfl (by decide) (by decide) (by decide) mw_fl_10_94 (v := .ref (ad 344)) (fvl_o (n := 344) rfl) dX10_weighTwos_103 ?_
              refine lv_iload E.1 E.2.1 dX10_weighTwos_106 (lv_at hl 1 rfl) ?_
              refine lv_bipush (v := 8) E.1 E.2.1 dX10_weighTwos_108 (by decide) ?_
              refine lv_imul E.1 E.2.1 dX10_weighTwos_110 ?_
              refine lv_topi (fun v60 e61 => ?_)
              have b62 : iv 0 56 v60 := by rw [e61]; exact iv_mulc b17 8 (by decide) (by decide) (by decide) (by decide) (by decide) (by decide)
              refine lv_iload E.1 E.2.1 dX10_weighTwos_111 (lv_at hl 0 rfl) ?_
              refine lv_iadd E.1 E.2.1 dX10_weighTwos_113 ?_
              refine lv_topi (fun v63 e64 => ?_)
              have b65 : iv 0 63 v63 := by rw [e64]; exact iv_add b62 b33 (by decide) (by decide) (by decide) (by decide)
              refine lv_aload_n E.1 E.2.1 dX10_weighTwos_114 rfl (lv_at hl 2 rfl) ?_
              refine t_get E G 10 11 (rfl : ro 0 = 10) (C := RX10) (T := TX10) (N := 17) rfl (by decide) (by decide) (by decide) mw_fl_10_76 (v := .ref (ad 324)) (fvl_o (n := 324) rfl) dX10_weighTwos_115 ?_
              refine lv_iload_n E.1 E.2.1 dX10_weighTwos_118 rfl (lv_at hl 3 rfl) ?_
              refine t_vi E G hl (c_gainOf l D K ad zz54 oo57 x1 (iv_mono bx1 (by decide) (by decide))) 1 (rfl : ro 324 = 1) (by decide) rfl rfl 1 rfl mw_code_X1_gainOf mw_ini_1 mw_ml_10_311 mw_inst_X1_gainOf mw_sel_X1_gainOf hd_X1_gainOf ⟨Nat.le_trans (by decide) hfr, Nat.le_trans (by decide) hlo⟩ rfl rfl rfl (Nat.le_of_ble_eq_true rfl) dX10_weighTwos_119 (fun r67 zz66 H locs hp68 G => ?_)
              have hz69 := hp68
              rw [hz69] at G
              refine t_iast E G 44 (rfl : ro 344 = 44) (by decide) (by decide) rfl (n := 64) rfl (iv_vp b65 (by decide) (by decide)) dX10_weighTwos_122 (fun H locs G => ?_)
              obtain ⟨zz70, G, oo71, kk72⟩ : ∃ u : TS, mG D A s H locs (wd K ad u) ∧ Ok u ∧ KC z u := ⟨_, G, ok_uc oo57 44 (rfl : ro 344 = 44) (by decide) (iv_mono (iv_full r67) (by decide) (by decide)) (by decide), KC.tr kk59 (KC_r 44 (rfl : ro 344 = 44) (by decide))⟩
              refine lv_aload_n E.1 E.2.1 dX10_weighTwos_123 rfl (lv_at hl 2 rfl) ?_
              refine t_get E G 10 16 (rfl : ro 0 = 10) (C := RX10) (T := TX10) (N := 17) rfl (by decide) (by decide) (by decide) mw_fl_10_97 (v := .ref (ad 345)) (fvl_o (n := 345) rfl) dX10_weighTwos_124 ?_
              refine lv_iload E.1 E.2.1 dX10_weighTwos_127 (lv_at hl 1 rfl) ?_
              refine lv_bipush (v := 8) E.1 E.2.1 dX10_weighTwos_129 (by decide) ?_
              refine lv_imul E.1 E.2.1 dX10_weighTwos_131 ?_
              refine lv_topi (fun v73 e74 => ?_)
              have b75 : iv 0 56 v73 := by rw [e74]; exact iv_mulc b17 8 (by decide) (by decide) (by decide) (by decide) (by decide) (by decide)
              refine lv_iload E.1 E.2.1 dX10_weighTwos_132 (lv_at hl 0 rfl) ?_
              refine lv_iadd E.1 E.2.1 dX10_weighTwos_134 ?_
              refine lv_topi (fun v76 e77 => ?_)
              have b78 : iv 0 63 v76 := by rw [e77]; exact iv_add b75 b33 (by decide) (by decide) (by decide) (by decide)
              refine lv_aload_n E.1 E.2.1 dX10_weighTwos_135 rfl (lv_at hl 2 rfl) ?_
              refine t_get E G 10 11 (rfl : ro 0 = 10) (C := RX10) (T := TX10) (N := 17) rfl (by decide) (by decide) (by decide) mw_fl_10_76 (v := .ref (ad 324)) (fvl_o (n := 324) rfl) dX10_weighTwos_136 ?_
              refine lv_iload_n E.1 E.2.1 dX10_weighTwos_139 rfl (lv_at hl 4 rfl) ?_
              refine t_vi E G hl (c_gainOf l D K ad zz70 oo71 x2 (iv_mono bx2 (by decide) (by decide))) 1 (rfl : ro 324 = 1) (by decide) rfl rfl 1 rfl mw_code_X1_gainOf mw_ini_1 mw_ml_10_311 mw_inst_X1_gainOf mw_sel_X1_gainOf hd_X1_gainOf ⟨Nat.le_trans (by decide) hfr, Nat.le_trans (by decide) hlo⟩ rfl rfl rfl (Nat.le_of_ble_eq_true rfl) dX10_weighTwos_140 (fun r80 zz79 H locs hp81 G => ?_)
              have hz82 := hp81
              rw [hz82] at G
              refine t_iast E G 44 (rfl : ro 345 = 44) (by decide) (by decide) rfl (n := 64) rfl (iv_vp b78 (by decide) (by decide)) dX10_weighTwos_143 (fun H locs G => ?_)
              obtain ⟨zz83, G, oo84, kk85⟩ : ∃ u : TS, mG D A s H locs (wd K ad u) ∧ Ok u ∧ KC z u := ⟨_, G, ok_uc oo71 44 (rfl : ro 345 = 44) (by decide) (iv_mono (iv_full r80) (by decide) (by decide)) (by decide), KC.tr kk72 (KC_r 44 (rfl : ro 345 = 44) (by decide))⟩
              obtain ⟨v86, e87⟩ : ∃ w : Int32, w = y19 + (1 : Int32) := ⟨_, rfl⟩
              refine lv_iinc (v := v86) (lv' := [(5, .int v86), (4, .int y7), (0, .ref (ad 0)), (1, .int x1), (2, .int x2), (3, .int x3)]) E.1 E.2.1 dX10_weighTwos_144 hl (k := 0) rfl (by rw [e87]; rfl) (by decide) rfl (fun ls hl => ?_)
              have b88 : iv 1 8 v86 := by rw [e87]; exact iv_add b33 (iv_lit (lo := 1) (hi := 1) 1 (by decide) (by decide)) (by decide) (by decide) (by decide) (by decide)
              have t89 : v86.toInt = y19.toInt + 1 := by rw [e87]; exact ti_addc 1 (by decide) b33 (by decide) (by decide)
              refine lv_goto (tgt := 35) E.1 E.2.1 dX10_weighTwos_147 (by decide) ?_
              exact ih35 zz83 v86 H locs ls G oo84 kk85 (iv_mono b88 (by decide) (by decide)) (by have := t89; have := m23; omega) (lv_sub hl [0, 1, 2, 3, 4, 5] rfl)
        exact LOOP35 9 zz8 0 H locs ls G oo9 kk10 (iv_mono (iv_lit (lo := 0) (hi := 0) 0 (by decide) (by decide)) (by decide) (by decide)) (by have := (iv_lit (lo := 0) (hi := 0) 0 (by decide) (by decide)).1; omega) (lv_sub hl [0, 1, 2, 3, 4, 5] rfl)
  exact LOOP17 9 zz1 0 H locs ls G oo4 kk6 (iv_mono (iv_lit (lo := 0) (hi := 0) 0 (by decide) (by decide)) (by decide) (by decide)) (by have := (iv_lit (lo := 0) (hi := 0) 0 (by decide) (by decide)).1; omega) (lv_sub hl [0, 1, 2, 3, 4] rfl)
set_option maxHeartbeats 4000000 in
set_option maxRecDepth 100000 in
theorem k_tallyRules (l : Launch) (D : va_G) (K : Nat → ClassId) (ad : Nat → Nat) (z : TS) (o : Ok z) (x1 : Int32) (bx1 : iv 0 60 x1) : cI l yX10_tallyRules cX10_tallyRules 5 .int ({ frames := 6, cells := 0, slots := 0, locals := 148 }) D K ad z [.ref (ad 0), .int x1] (fun r u => Ok u ∧ KC z u) := by
  refine t_enterI (by decide) (Nat.le_of_ble_eq_true rfl) rfl rfl ?_
  intro p e s m args below meth c A R Q H locs ls E hfr hlo RET G hl
  have E : mE p s m meth c cX10_tallyRules args 5 RX10 D K A := E
  have hl : lv_has ls 5 [(0, .ref (ad 0)), (1, .int x1)] := hl
  refine lv_iconst (v := 0) E.1 E.2.1 dX10_tallyRules_0 (by decide) ?_
  refine lv_istore_n (lv' := [(2, .int 0), (0, .ref (ad 0)), (1, .int x1)]) E.1 E.2.1 dX10_tallyRules_1 rfl hl (by decide) rfl (fun ls hl => ?_)
  have LOOP2 : ∀ n : Nat, ∀ (zz2 : TS) (y1 : Int32) (H : Heap) (locs : List Loc) (ls : Array Slot), mG D A s H locs (wd K ad zz2) → Ok zz2 → KC z zz2 → iv 0 40 y1 → 40 < y1.toInt + (n : Int) → lv_has ls 5 [(2, .int y1), (0, .ref (ad 0)), (1, .int x1)] → W p l e R s m args below meth c H locs 0 0 Q (F0 m 2 ls []) := by
    intro n
    induction n with
    | zero =>
      intro zz2 y1 H locs ls G oo3 kk4 b6 m5 hl
      exact absurd m5 (by have := b6.1; have := b6.2; omega)
    | succ n ih2 =>
      intro zz2 y1 H locs ls G oo3 kk4 b6 m5 hl
      refine lv_iload_n E.1 E.2.1 dX10_tallyRules_2 rfl (lv_at hl 0 rfl) ?_
      refine lv_aload_n E.1 E.2.1 dX10_tallyRules_3 rfl (lv_at hl 1 rfl) ?_
      refine t_get E G 10 13 (rfl : ro 0 = 10) (C := RX10) (T := TX10) (N := 17) rfl (by decide) (by decide) (by decide) mw_fl_10_87 (v := .ref (ad 342)) (fvl_o (n := 342) rfl) dX10_tallyRules_4 ?_
      refine t_alen E G 42 0 (rfl : ro 342 = 42) (by decide) (by decide) rfl rfl (v := 40) (by decide) dX10_tallyRules_7 ?_
      refine lv_icmp_ge (tgt := 24) E.1 E.2.1 dX10_tallyRules_8 (by decide) (fun c7 => ?_) (fun c7 => ?_)
      · skip
        have b8 : iv 40 40 y1 := le_r c7 (iv_lit (lo := 40) (hi := 40) 40 (by decide) (by decide)) b6 (by decide)
        refine lv_iconst (v := 0) E.1 E.2.1 dX10_tallyRules_24 (by decide) ?_
        refine lv_istore_n (lv' := [(2, .int 0), (0, .ref (ad 0)), (1, .int x1)]) E.1 E.2.1 dX10_tallyRules_25 rfl hl (by decide) rfl (fun ls hl => ?_)
        refine lv_iconst (v := (-1)) E.1 E.2.1 dX10_tallyRules_26 (by decide) ?_
        refine lv_istore_n (lv' := [(3, .int (-1)), (2, .int 0), (0, .ref (ad 0)), (1, .int x1)]) E.1 E.2.1 dX10_tallyRules_27 rfl hl (by decide) rfl (fun ls hl => ?_)
        have LOOP28 : ∀ n : Nat, ∀ (zz11 : TS) (y9 : Int32) (y10 : Int32) (H : Heap) (locs : List Loc) (ls : Array Slot), mG D A s H locs (wd K ad zz11) → Ok zz11 → KC z zz11 → iv (-1) 6 y9 → 6 < y9.toInt + (n : Int) → lv_has ls 5 [(3, .int y9), (2, .int y10), (0, .ref (ad 0)), (1, .int x1)] → W p l e R s m args below meth c H locs 0 0 Q (F0 m 28 ls []) := by
          intro n
          induction n with
          | zero =>
            intro zz11 y9 y10 H locs ls G oo12 kk13 b15 m14 hl
            exact absurd m14 (by have := b15.1; have := b15.2; omega)
          | succ n ih28 =>
            intro zz11 y9 y10 H locs ls G oo12 kk13 b15 m14 hl
            refine lv_iload_n E.1 E.2.1 dX10_tallyRules_28 rfl (lv_at hl 0 rfl) ?_
            refine lv_aload_n E.1 E.2.1 dX10_tallyRules_29 rfl (lv_at hl 2 rfl) ?_
            refine t_get E G 10 5 (rfl : ro 0 = 10) (C := RX10) (T := TX10) (N := 17) rfl (by decide) (by decide) (by decide) mw_fl_10_43 (fvl_i rfl) dX10_tallyRules_30 ?_
            refine lv_topi (fun v16 e17 => ?_)
            have b18 : iv 0 6 v16 := by rw [e17]; exact oo12.i 10 5 (rfl : ro 0 = 10)
            refine lv_icmp_ge (tgt := 156) E.1 E.2.1 dX10_tallyRules_33 (by decide) (fun c19 => ?_) (fun c19 => ?_)
            · skip
              have b20 : iv 0 6 y9 := le_r c19 b18 b15 (by decide)
              refine lv_iload_n E.1 E.2.1 dX10_tallyRules_156 rfl (lv_at hl 1 rfl) ?_
              exact RET G ⟨oo12, kk13⟩ rfl dX10_tallyRules_157
            · skip
              have b21 : iv (-1) 5 y9 := lt_l (Int32.not_le.mp c19) b15 b18 (by decide)
              refine lv_aload_n E.1 E.2.1 dX10_tallyRules_36 rfl (lv_at hl 2 rfl) ?_
              refine lv_aload_n E.1 E.2.1 dX10_tallyRules_37 rfl (lv_at hl 2 rfl) ?_
              refine lv_iload_n E.1 E.2.1 dX10_tallyRules_38 rfl (lv_at hl 0 rfl) ?_
              refine t_vr E G hl (k_ruleOf l D K ad zz11 oo12 y9) 10 (rfl : ro 0 = 10) (by decide) rfl rfl 1 rfl mw_code_X10_ruleOf mw_ini_10 mw_ml_10_326 mw_inst_X10_ruleOf mw_sel_X10_ruleOf hd_X10_ruleOf ⟨Nat.le_trans (by decide) hfr, Nat.le_trans (by decide) hlo⟩ rfl rfl rfl (Nat.le_of_ble_eq_true rfl) dX10_tallyRules_39 (fun r23 zz22 H locs hp24 G => ?_)
              obtain ⟨hz26, h25⟩ := hp24
              rw [hz26] at G
              refine lv_aload_n E.1 E.2.1 dX10_tallyRules_42 rfl (lv_at hl 2 rfl) ?_
              refine t_get E G 10 7 (rfl : ro 0 = 10) (C := RX10) (T := TX10) (N := 17) rfl (by decide) (by decide) (by decide) mw_fl_10_55 (v := .ref (ad 56)) (fvl_o (n := 56) rfl) dX10_tallyRules_43 ?_
              refine t_get E G 2 0 (rfl : ro 56 = 2) (C := RX2) (T := TX2) (N := 5) rfl (by decide) (by decide) (by decide) mw_fl_10_114 (v := .ref (ad 57)) (fvl_o (n := 1) rfl) dX10_tallyRules_46 ?_
              refine t_get E G 8 8 (rfl : ro 57 = 8) (C := RX8) (T := TX8) (N := 10) rfl (by decide) (by decide) (by decide) mw_fl_10_124 (v := .ref (ad 62)) (fvl_o (n := 5) rfl) dX10_tallyRules_49 ?_
              refine t_vi E G hl (k_notesAreSo l D K ad zz11 oo12 r23 h25 62 (by decide : at_ 6 62 = true)) 10 (rfl : ro 0 = 10) (by decide) rfl rfl 2 rfl mw_code_X10_notesAreSo mw_ini_10 mw_ml_10_322 mw_inst_X10_notesAreSo mw_sel_X10_notesAreSo hd_X10_notesAreSo ⟨Nat.le_trans (by decide) hfr, Nat.le_trans (by decide) hlo⟩ rfl rfl rfl (Nat.le_of_ble_eq_true rfl) dX10_tallyRules_52 (fun r28 zz27 H locs hp29 G => ?_)
              obtain ⟨oo30, kk31, b32⟩ := hp29
              have kk33 : KC z zz27 := KC.tr kk13 kk31
              refine lv_if_eq (tgt := 150) E.1 E.2.1 dX10_tallyRules_55 (by decide) (fun c34 => ?_) (fun c34 => ?_)
              · skip
                have b35 : iv 0 0 r28 := iv_eq c34 (iv_lit (lo := 0) (hi := 0) 0 (by decide) (by decide))
                obtain ⟨v36, e37⟩ : ∃ w : Int32, w = y9 + (1 : Int32) := ⟨_, rfl⟩
                refine lv_iinc (v := v36) (lv' := [(3, .int v36), (2, .int y10), (0, .ref (ad 0)), (1, .int x1)]) E.1 E.2.1 dX10_tallyRules_150 hl (k := 0) rfl (by rw [e37]; rfl) (by decide) rfl (fun ls hl => ?_)
                have b38 : iv 0 6 v36 := by rw [e37]; exact iv_add b21 (iv_lit (lo := 1) (hi := 1) 1 (by decide) (by decide)) (by decide) (by decide) (by decide) (by decide)
                have t39 : v36.toInt = y9.toInt + 1 := by rw [e37]; exact ti_addc 1 (by decide) b21 (by decide) (by decide)
                refine lv_goto (tgt := 28) E.1 E.2.1 dX10_tallyRules_153 (by decide) ?_
                exact ih28 zz27 v36 y10 H locs ls G oo30 kk33 (iv_mono b38 (by decide) (by decide)) (by have := t39; have := m14; omega) (lv_sub hl [0, 1, 2, 3] rfl)
              · skip
                have b40 : iv 1 1 r28 := ne_lo c34 b32 (by decide) (by decide)
                obtain ⟨v41, e42⟩ : ∃ w : Int32, w = y10 + (1 : Int32) := ⟨_, rfl⟩
                refine lv_iinc (v := v41) (lv' := [(2, .int v41), (3, .int y9), (0, .ref (ad 0)), (1, .int x1)]) E.1 E.2.1 dX10_tallyRules_58 hl (k := 1) rfl (by rw [e42]; rfl) (by decide) rfl (fun ls hl => ?_)
                refine lv_aload_n E.1 E.2.1 dX10_tallyRules_61 rfl (lv_at hl 2 rfl) ?_
                refine t_get E G 10 11 (rfl : ro 0 = 10) (C := RX10) (T := TX10) (N := 17) rfl (by decide) (by decide) (by decide) mw_fl_10_76 (v := .ref (ad 324)) (fvl_o (n := 324) rfl) dX10_tallyRules_62 ?_
                refine lv_aload_n E.1 E.2.1 dX10_tallyRules_65 rfl (lv_at hl 2 rfl) ?_
                refine t_get E G 10 7 (rfl : ro 0 = 10) (C := RX10) (T := TX10) (N := 17) rfl (by decide) (by decide) (by decide) mw_fl_10_55 (v := .ref (ad 56)) (fvl_o (n := 56) rfl) dX10_tallyRules_66 ?_
                refine t_get E G 2 0 (rfl : ro 56 = 2) (C := RX2) (T := TX2) (N := 5) rfl (by decide) (by decide) (by decide) mw_fl_10_114 (v := .ref (ad 57)) (fvl_o (n := 1) rfl) dX10_tallyRules_69 ?_
                refine lv_aload_n E.1 E.2.1 dX10_tallyRules_72 rfl (lv_at hl 2 rfl) ?_
                refine lv_iload_n E.1 E.2.1 dX10_tallyRules_73 rfl (lv_at hl 1 rfl) ?_
                refine t_vr E G hl (k_ruleOf l D K ad zz27 oo30 y9) 10 (rfl : ro 0 = 10) (by decide) rfl rfl 1 rfl mw_code_X10_ruleOf mw_ini_10 mw_ml_10_326 mw_inst_X10_ruleOf mw_sel_X10_ruleOf hd_X10_ruleOf ⟨Nat.le_trans (by decide) hfr, Nat.le_trans (by decide) hlo⟩ rfl rfl rfl (Nat.le_of_ble_eq_true rfl) dX10_tallyRules_74 (fun r44 zz43 H locs hp45 G => ?_)
                obtain ⟨hz47, h46⟩ := hp45
                rw [hz47] at G
                refine lv_aload_n E.1 E.2.1 dX10_tallyRules_77 rfl (lv_at hl 2 rfl) ?_
                refine t_get E G 10 7 (rfl : ro 0 = 10) (C := RX10) (T := TX10) (N := 17) rfl (by decide) (by decide) (by decide) mw_fl_10_55 (v := .ref (ad 56)) (fvl_o (n := 56) rfl) dX10_tallyRules_78 ?_
                refine t_get E G 2 0 (rfl : ro 56 = 2) (C := RX2) (T := TX2) (N := 5) rfl (by decide) (by decide) (by decide) mw_fl_10_114 (v := .ref (ad 57)) (fvl_o (n := 1) rfl) dX10_tallyRules_81 ?_
                refine t_get E G 8 8 (rfl : ro 57 = 8) (C := RX8) (T := TX8) (N := 10) rfl (by decide) (by decide) (by decide) mw_fl_10_124 (v := .ref (ad 62)) (fvl_o (n := 5) rfl) dX10_tallyRules_84 ?_
                refine t_vv E G hl (c_start l D K ad zz27 oo30 57 (by decide : at_ 8 57 = true) r44 h46 62 (by decide : at_ 6 62 = true)) 1 (rfl : ro 324 = 1) (by decide) rfl rfl 3 rfl mw_code_X1_start mw_ini_1 mw_ml_10_299 mw_inst_X1_start mw_sel_X1_start hd_X1_start ⟨Nat.le_trans (by decide) hfr, Nat.le_trans (by decide) hlo⟩ rfl rfl rfl (Nat.le_of_ble_eq_true rfl) dX10_tallyRules_87 (fun zz48 H locs hp50 G => ?_)
                obtain ⟨oo51, kk52⟩ := hp50
                have kk53 : KC z zz48 := KC.tr kk33 kk52
                refine lv_aload_n E.1 E.2.1 dX10_tallyRules_90 rfl (lv_at hl 2 rfl) ?_
                refine t_get E G 10 11 (rfl : ro 0 = 10) (C := RX10) (T := TX10) (N := 17) rfl (by decide) (by decide) (by decide) mw_fl_10_76 (v := .ref (ad 324)) (fvl_o (n := 324) rfl) dX10_tallyRules_91 ?_
                refine lv_iload_n E.1 E.2.1 dX10_tallyRules_94 rfl (lv_at hl 3 rfl) ?_
                refine t_vv E G hl (c_goSteps l D K ad zz48 oo51 x1 (iv_mono bx1 (by decide) (by decide))) 1 (rfl : ro 324 = 1) (by decide) rfl rfl 1 rfl mw_code_X1_goSteps mw_ini_1 mw_ml_10_242 mw_inst_X1_goSteps mw_sel_X1_goSteps hd_X1_goSteps ⟨Nat.le_trans (by decide) hfr, Nat.le_trans (by decide) hlo⟩ rfl rfl rfl (Nat.le_of_ble_eq_true rfl) dX10_tallyRules_95 (fun zz54 H locs hp56 G => ?_)
                obtain ⟨oo57, kk58⟩ := hp56
                have kk59 : KC z zz54 := KC.tr kk53 kk58
                refine lv_iconst (v := 0) E.1 E.2.1 dX10_tallyRules_98 (by decide) ?_
                refine lv_istore (lv' := [(4, .int 0), (2, .int v41), (3, .int y9), (0, .ref (ad 0)), (1, .int x1)]) E.1 E.2.1 dX10_tallyRules_99 hl (by decide) rfl (fun ls hl => ?_)
                have LOOP101 : ∀ n : Nat, ∀ (zz61 : TS) (y60 : Int32) (H : Heap) (locs : List Loc) (ls : Array Slot), mG D A s H locs (wd K ad zz61) → Ok zz61 → KC z zz61 → iv 0 5 y60 → 5 < y60.toInt + (n : Int) → lv_has ls 5 [(4, .int y60), (2, .int v41), (3, .int y9), (0, .ref (ad 0)), (1, .int x1)] → W p l e R s m args below meth c H locs 0 0 Q (F0 m 101 ls []) := by
                  intro n
                  induction n with
                  | zero =>
                    intro zz61 y60 H locs ls G oo62 kk63 b65 m64 hl
                    exact absurd m64 (by have := b65.1; have := b65.2; omega)
                  | succ n ih101 =>
                    intro zz61 y60 H locs ls G oo62 kk63 b65 m64 hl
                    refine lv_iload E.1 E.2.1 dX10_tallyRules_101 (lv_at hl 0 rfl) ?_
                    refine lv_aload_n E.1 E.2.1 dX10_tallyRules_103 rfl (lv_at hl 3 rfl) ?_
                    refine t_get E G 10 7 (rfl : ro 0 = 10) (C := RX10) (T := TX10) (N := 17) rfl (by decide) (by decide) (by decide) mw_fl_10_55 (v := .ref (ad 56)) (fvl_o (n := 56) rfl) dX10_tallyRules_104 ?_
                    refine t_get E G 2 0 (rfl : ro 56 = 2) (C := RX2) (T := TX2) (N := 5) rfl (by decide) (by decide) (by decide) mw_fl_10_114 (v := .ref (ad 57)) (fvl_o (n := 1) rfl) dX10_tallyRules_107 ?_
                    refine t_get E G 8 3 (rfl : ro 57 = 8) (C := RX8) (T := TX8) (N := 10) rfl (by decide) (by decide) (by decide) mw_fl_10_140 (fvl_i rfl) dX10_tallyRules_110 ?_
                    refine lv_topi (fun v66 e67 => ?_)
                    have b68 : iv 0 5 v66 := by rw [e67]; exact oo62.i 8 3 (rfl : ro 57 = 8)
                    refine lv_icmp_ge (tgt := 150) E.1 E.2.1 dX10_tallyRules_113 (by decide) (fun c69 => ?_) (fun c69 => ?_)
                    · skip
                      obtain ⟨v70, e71⟩ : ∃ w : Int32, w = y9 + (1 : Int32) := ⟨_, rfl⟩
                      refine lv_iinc (v := v70) (lv' := [(3, .int v70), (4, .int y60), (2, .int v41), (0, .ref (ad 0)), (1, .int x1)]) E.1 E.2.1 dX10_tallyRules_150 hl (k := 2) rfl (by rw [e71]; rfl) (by decide) rfl (fun ls hl => ?_)
                      have b72 : iv 0 6 v70 := by rw [e71]; exact iv_add b21 (iv_lit (lo := 1) (hi := 1) 1 (by decide) (by decide)) (by decide) (by decide) (by decide) (by decide)
                      have t73 : v70.toInt = y9.toInt + 1 := by rw [e71]; exact ti_addc 1 (by decide) b21 (by decide) (by decide)
                      refine lv_goto (tgt := 28) E.1 E.2.1 dX10_tallyRules_153 (by decide) ?_
                      exact ih28 zz61 v70 v41 H locs ls G oo62 kk63 (iv_mono b72 (by decide) (by decide)) (by have := t73; have := m14; omega) (lv_sub hl [0, 2, 3, 4] rfl)
                    · skip
                      have b74 : iv 0 4 y60 := lt_l (Int32.not_le.mp c69) b65 b68 (by decide)
                      have b75 : iv 1 5 v66 := lt_r (Int32.not_le.mp c69) b65 b68 (by decide)
                      refine lv_aload_n E.1 E.2.1 dX10_tallyRules_116 rfl (lv_at hl 3 rfl) ?_
                      refine t_get E G 10 13 (rfl : ro 0 = 10) (C := RX10) (T := TX10) (N := 17) rfl (by decide) (by decide) (by decide) mw_fl_10_87 (v := .ref (ad 342)) (fvl_o (n := 342) rfl) dX10_tallyRules_117 ?_
                      refine lv_iload E.1 E.2.1 dX10_tallyRules_120 (lv_at hl 0 rfl) ?_
                      refine lv_bipush (v := 8) E.1 E.2.1 dX10_tallyRules_122 (by decide) ?_
                      refine lv_imul E.1 E.2.1 dX10_tallyRules_124 ?_
                      refine lv_topi (fun v76 e77 => ?_)
                      have b78 : iv 0 32 v76 := by rw [e77]; exact iv_mulc b74 8 (by decide) (by decide) (by decide) (by decide) (by decide) (by decide)
                      refine lv_aload_n E.1 E.2.1 dX10_tallyRules_125 rfl (lv_at hl 3 rfl) ?_
                      refine t_get E G 10 11 (rfl : ro 0 = 10) (C := RX10) (T := TX10) (N := 17) rfl (by decide) (by decide) (by decide) mw_fl_10_76 (v := .ref (ad 324)) (fvl_o (n := 324) rfl) dX10_tallyRules_126 ?_
                      refine t_get E G 1 0 (rfl : ro 324 = 1) (C := RX1) (T := TX1) (N := 6) rfl (by decide) (by decide) (by decide) mw_fl_10_232 (v := .ref (ad 325)) (fvl_o (n := 1) rfl) dX10_tallyRules_129 ?_
                      refine t_get E G 6 0 (rfl : ro 325 = 6) (C := RX6) (T := TX6) (N := 8) rfl (by decide) (by decide) (by decide) mw_fl_10_171 (v := .ref (ad 326)) (fvl_o (n := 1) rfl) dX10_tallyRules_132 ?_
                      refine lv_iload E.1 E.2.1 dX10_tallyRules_135 (lv_at hl 0 rfl) ?_
                      refine t_iald E G 21 (rfl : ro 326 = 21) (by decide) (by decide) rfl (n := 5) rfl (iv_vp b74 (by decide) (by decide)) dX10_tallyRules_137 ?_
                      refine lv_topi (fun v79 e80 => ?_)
                      have b81 : iv 0 7 v79 := by rw [e80]; exact oo62.ac 21 (rfl : ro 326 = 21) (by decide) _
                      refine lv_iadd E.1 E.2.1 dX10_tallyRules_138 ?_
                      refine lv_topi (fun v82 e83 => ?_)
                      have b84 : iv 0 39 v82 := by rw [e83]; exact iv_add b78 b81 (by decide) (by decide) (by decide) (by decide)
                      refine lv_dup2_11 E.1 E.2.1 dX10_tallyRules_139 rfl rfl ?_
                      refine t_iald E G 42 (rfl : ro 342 = 42) (by decide) (by decide) rfl (n := 40) rfl (iv_vp b84 (by decide) (by decide)) dX10_tallyRules_140 ?_
                      refine lv_topi (fun v85 e86 => ?_)
                      refine lv_iconst (v := 1) E.1 E.2.1 dX10_tallyRules_141 (by decide) ?_
                      refine lv_iadd E.1 E.2.1 dX10_tallyRules_142 ?_
                      refine lv_topi (fun v87 e88 => ?_)
                      refine t_iast E G 42 (rfl : ro 342 = 42) (by decide) (by decide) rfl (n := 40) rfl (iv_vp b84 (by decide) (by decide)) dX10_tallyRules_143 (fun H locs G => ?_)
                      obtain ⟨zz89, G, oo90, kk91, h92⟩ : ∃ u : TS, mG D A s H locs (wd K ad u) ∧ Ok u ∧ KC z u ∧ tI u 57 3 = v66 := ⟨_, G, ok_uc oo62 42 (rfl : ro 342 = 42) (by decide) (iv_mono (iv_full v87) (by decide) (by decide)) (by decide), KC.tr kk63 (KC_r 42 (rfl : ro 342 = 42) (by decide)), e67.symm⟩
                      obtain ⟨v93, e94⟩ : ∃ w : Int32, w = y60 + (1 : Int32) := ⟨_, rfl⟩
                      refine lv_iinc (v := v93) (lv' := [(4, .int v93), (2, .int v41), (3, .int y9), (0, .ref (ad 0)), (1, .int x1)]) E.1 E.2.1 dX10_tallyRules_144 hl (k := 0) rfl (by rw [e94]; rfl) (by decide) rfl (fun ls hl => ?_)
                      have b95 : iv 1 5 v93 := by rw [e94]; exact iv_add b74 (iv_lit (lo := 1) (hi := 1) 1 (by decide) (by decide)) (by decide) (by decide) (by decide) (by decide)
                      have t96 : v93.toInt = y60.toInt + 1 := by rw [e94]; exact ti_addc 1 (by decide) b74 (by decide) (by decide)
                      refine lv_goto (tgt := 101) E.1 E.2.1 dX10_tallyRules_147 (by decide) ?_
                      exact ih101 zz89 v93 H locs ls G oo90 kk91 (iv_mono b95 (by decide) (by decide)) (by have := t96; have := m64; omega) (lv_sub hl [0, 1, 2, 3, 4] rfl)
                exact LOOP101 6 zz54 0 H locs ls G oo57 kk59 (iv_mono (iv_lit (lo := 0) (hi := 0) 0 (by decide) (by decide)) (by decide) (by decide)) (by have := (iv_lit (lo := 0) (hi := 0) 0 (by decide) (by decide)).1; omega) (lv_sub hl [0, 1, 2, 3, 4] rfl)
        exact LOOP28 8 zz2 (-1) 0 H locs ls G oo3 kk4 (iv_mono (iv_lit (lo := (-1)) (hi := (-1)) (-1) (by decide) (by decide)) (by decide) (by decide)) (by have := (iv_lit (lo := (-1)) (hi := (-1)) (-1) (by decide) (by decide)).1; omega) (lv_sub hl [0, 1, 2, 3] rfl)
      · skip
        have b97 : iv 0 39 y1 := lt_l (Int32.not_le.mp c7) b6 (iv_lit (lo := 40) (hi := 40) 40 (by decide) (by decide)) (by decide)
        refine lv_aload_n E.1 E.2.1 dX10_tallyRules_11 rfl (lv_at hl 1 rfl) ?_
        refine t_get E G 10 13 (rfl : ro 0 = 10) (C := RX10) (T := TX10) (N := 17) rfl (by decide) (by decide) (by decide) mw_fl_10_87 (v := .ref (ad 342)) (fvl_o (n := 342) rfl) dX10_tallyRules_12 ?_
        refine lv_iload_n E.1 E.2.1 dX10_tallyRules_15 rfl (lv_at hl 0 rfl) ?_
        refine lv_iconst (v := 0) E.1 E.2.1 dX10_tallyRules_16 (by decide) ?_
        refine t_iast E G 42 (rfl : ro 342 = 42) (by decide) (by decide) rfl (n := 40) rfl (iv_vp b97 (by decide) (by decide)) dX10_tallyRules_17 (fun H locs G => ?_)
        obtain ⟨zz98, G, oo99, kk100⟩ : ∃ u : TS, mG D A s H locs (wd K ad u) ∧ Ok u ∧ KC z u := ⟨_, G, ok_uc oo3 42 (rfl : ro 342 = 42) (by decide) (iv_mono (iv_lit (lo := 0) (hi := 0) 0 (by decide) (by decide)) (by decide) (by decide)) (by decide), KC.tr kk4 (KC_r 42 (rfl : ro 342 = 42) (by decide))⟩
        obtain ⟨v101, e102⟩ : ∃ w : Int32, w = y1 + (1 : Int32) := ⟨_, rfl⟩
        refine lv_iinc (v := v101) (lv' := [(2, .int v101), (0, .ref (ad 0)), (1, .int x1)]) E.1 E.2.1 dX10_tallyRules_18 hl (k := 0) rfl (by rw [e102]; rfl) (by decide) rfl (fun ls hl => ?_)
        have b103 : iv 1 40 v101 := by rw [e102]; exact iv_add b97 (iv_lit (lo := 1) (hi := 1) 1 (by decide) (by decide)) (by decide) (by decide) (by decide) (by decide)
        have t104 : v101.toInt = y1.toInt + 1 := by rw [e102]; exact ti_addc 1 (by decide) b97 (by decide) (by decide)
        refine lv_goto (tgt := 2) E.1 E.2.1 dX10_tallyRules_21 (by decide) ?_
        exact ih2 zz98 v101 H locs ls G oo99 kk100 (iv_mono b103 (by decide) (by decide)) (by have := t104; have := m5; omega) (lv_sub hl [0, 1, 2] rfl)
  exact LOOP2 41 z 0 H locs ls G o KC.rf (iv_mono (iv_lit (lo := 0) (hi := 0) 0 (by decide) (by decide)) (by decide) (by decide)) (by have := (iv_lit (lo := 0) (hi := 0) 0 (by decide) (by decide)).1; omega) (lv_sub hl [0, 1, 2] rfl)
