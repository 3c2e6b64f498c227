theorem mw_code_X11_cellHere : (Cond.code yX11_cellHere cX11_cellHere 4 (some .boolean) : Cond) ∈ cw := cw_of (List.mem_append_right _ (List.mem_append_right _ (List.mem_append_right _ (List.mem_append_right _ (List.mem_append_right _ (List.mem_append_right _ (List.mem_append_left _ (List.mem_of_getElem? (i := 44) rfl)))))))) (by decide +kernel)
theorem mw_inst_X11_cellHere : (Cond.instanceMethod yX11_cellHere : Cond) ∈ cw := cw_of (List.mem_append_right _ (List.mem_append_right _ (List.mem_append_right _ (List.mem_append_right _ (List.mem_append_right _ (List.mem_append_right _ (List.mem_append_left _ (List.mem_of_getElem? (i := 43) (by decide +kernel))))))))) (by decide +kernel)
theorem mw_ml_11_219 : (Cond.methodLink RX11 219 yX11_cellHere : Cond) ∈ cw := cw_of (List.mem_append_right _ (List.mem_append_right _ (List.mem_append_right _ (List.mem_append_right _ (List.mem_append_right _ (List.mem_append_right _ (List.mem_append_left _ (List.mem_of_getElem? (i := 41) (by decide +kernel))))))))) (by decide +kernel)
theorem mw_sel_X11_cellHere : (Cond.selects RX11 yX11_cellHere yX11_cellHere : Cond) ∈ cw := cw_of (List.mem_append_left _ (List.mem_of_getElem? (i := 58) (by decide +kernel))) (by decide +kernel)
theorem dX11_isLureHere_0 : decode cX11_isLureHere 0 = .ok (.aload_n 0, 1) := by decide +kernel
theorem dX11_isLureHere_1 : decode cX11_isLureHere 1 = .ok (.getfield 26, 3) := by decide +kernel
theorem dX11_isLureHere_4 : decode cX11_isLureHere 4 = .ok (.iconst 3, 1) := by decide +kernel
theorem dX11_isLureHere_5 : decode cX11_isLureHere 5 = .ok (.iaload, 1) := by decide +kernel
theorem dX11_isLureHere_6 : decode cX11_isLureHere 6 = .ok (.bipush 6, 2) := by decide +kernel
theorem dX11_isLureHere_8 : decode cX11_isLureHere 8 = .ok (.if_icmp .ne 10, 3) := by decide +kernel
theorem dX11_isLureHere_11 : decode cX11_isLureHere 11 = .ok (.aload_n 0, 1) := by decide +kernel
theorem dX11_isLureHere_12 : decode cX11_isLureHere 12 = .ok (.iconst 4, 1) := by decide +kernel
theorem dX11_isLureHere_13 : decode cX11_isLureHere 13 = .ok (.iload_n 1, 1) := by decide +kernel
theorem dX11_isLureHere_14 : decode cX11_isLureHere 14 = .ok (.invokevirtual 114, 3) := by decide +kernel
theorem dX11_isLureHere_17 : decode cX11_isLureHere 17 = .ok (.ireturn, 1) := by decide +kernel
theorem dX11_isLureHere_18 : decode cX11_isLureHere 18 = .ok (.aload_n 0, 1) := by decide +kernel
theorem dX11_isLureHere_19 : decode cX11_isLureHere 19 = .ok (.invokevirtual 108, 3) := by decide +kernel
theorem dX11_isLureHere_22 : decode cX11_isLureHere 22 = .ok (.aload_n 0, 1) := by decide +kernel
theorem dX11_isLureHere_23 : decode cX11_isLureHere 23 = .ok (.getfield 26, 3) := by decide +kernel
theorem dX11_isLureHere_26 : decode cX11_isLureHere 26 = .ok (.iconst 3, 1) := by decide +kernel
theorem dX11_isLureHere_27 : decode cX11_isLureHere 27 = .ok (.iaload, 1) := by decide +kernel
theorem dX11_isLureHere_28 : decode cX11_isLureHere 28 = .ok (.istore_n 2, 1) := by decide +kernel
theorem dX11_isLureHere_29 : decode cX11_isLureHere 29 = .ok (.aload_n 0, 1) := by decide +kernel
theorem dX11_isLureHere_30 : decode cX11_isLureHere 30 = .ok (.bipush 66, 2) := by decide +kernel
theorem dX11_isLureHere_32 : decode cX11_isLureHere 32 = .ok (.iconst 2, 1) := by decide +kernel
theorem dX11_isLureHere_33 : decode cX11_isLureHere 33 = .ok (.iload_n 2, 1) := by decide +kernel
theorem dX11_isLureHere_34 : decode cX11_isLureHere 34 = .ok (.imul, 1) := by decide +kernel
theorem dX11_isLureHere_35 : decode cX11_isLureHere 35 = .ok (.iadd, 1) := by decide +kernel
theorem dX11_isLureHere_36 : decode cX11_isLureHere 36 = .ok (.iconst 0, 1) := by decide +kernel
theorem dX11_isLureHere_37 : decode cX11_isLureHere 37 = .ok (.aload_n 0, 1) := by decide +kernel
theorem dX11_isLureHere_38 : decode cX11_isLureHere 38 = .ok (.getfield 26, 3) := by decide +kernel
theorem dX11_isLureHere_41 : decode cX11_isLureHere 41 = .ok (.iconst 1, 1) := by decide +kernel
theorem dX11_isLureHere_42 : decode cX11_isLureHere 42 = .ok (.iaload, 1) := by decide +kernel
theorem dX11_isLureHere_43 : decode cX11_isLureHere 43 = .ok (.iconst 1, 1) := by decide +kernel
theorem dX11_isLureHere_44 : decode cX11_isLureHere 44 = .ok (.isub, 1) := by decide +kernel
theorem dX11_isLureHere_45 : decode cX11_isLureHere 45 = .ok (.invokevirtual 219, 3) := by decide +kernel
theorem dX11_isLureHere_48 : decode cX11_isLureHere 48 = .ok (.ifCond .eq 21, 3) := by decide +kernel
theorem dX11_isLureHere_51 : decode cX11_isLureHere 51 = .ok (.aload_n 0, 1) := by decide +kernel
theorem dX11_isLureHere_52 : decode cX11_isLureHere 52 = .ok (.bipush 66, 2) := by decide +kernel
theorem dX11_isLureHere_54 : decode cX11_isLureHere 54 = .ok (.iconst 2, 1) := by decide +kernel
theorem dX11_isLureHere_55 : decode cX11_isLureHere 55 = .ok (.iload_n 2, 1) := by decide +kernel
theorem dX11_isLureHere_56 : decode cX11_isLureHere 56 = .ok (.imul, 1) := by decide +kernel
theorem dX11_isLureHere_57 : decode cX11_isLureHere 57 = .ok (.iadd, 1) := by decide +kernel
theorem dX11_isLureHere_58 : decode cX11_isLureHere 58 = .ok (.iconst 1, 1) := by decide +kernel
theorem dX11_isLureHere_59 : decode cX11_isLureHere 59 = .ok (.iadd, 1) := by decide +kernel
theorem dX11_isLureHere_60 : decode cX11_isLureHere 60 = .ok (.iconst 0, 1) := by decide +kernel
theorem dX11_isLureHere_61 : decode cX11_isLureHere 61 = .ok (.bipush 7, 2) := by decide +kernel
theorem dX11_isLureHere_63 : decode cX11_isLureHere 63 = .ok (.invokevirtual 219, 3) := by decide +kernel
theorem dX11_isLureHere_66 : decode cX11_isLureHere 66 = .ok (.ifCond .ne 5, 3) := by decide +kernel
theorem dX11_isLureHere_69 : decode cX11_isLureHere 69 = .ok (.iconst 0, 1) := by decide +kernel
theorem dX11_isLureHere_70 : decode cX11_isLureHere 70 = .ok (.ireturn, 1) := by decide +kernel
theorem dX11_isLureHere_71 : decode cX11_isLureHere 71 = .ok (.aload_n 0, 1) := by decide +kernel
theorem dX11_isLureHere_72 : decode cX11_isLureHere 72 = .ok (.bipush 44, 2) := by decide +kernel
theorem dX11_isLureHere_74 : decode cX11_isLureHere 74 = .ok (.iload_n 2, 1) := by decide +kernel
theorem dX11_isLureHere_75 : decode cX11_isLureHere 75 = .ok (.iadd, 1) := by decide +kernel
theorem dX11_isLureHere_76 : decode cX11_isLureHere 76 = .ok (.iconst 1, 1) := by decide +kernel
theorem dX11_isLureHere_77 : decode cX11_isLureHere 77 = .ok (.bipush 9, 2) := by decide +kernel
theorem dX11_isLureHere_79 : decode cX11_isLureHere 79 = .ok (.invokevirtual 219, 3) := by decide +kernel
theorem dX11_isLureHere_82 : decode cX11_isLureHere 82 = .ok (.ifCond .eq 17, 3) := by decide +kernel
theorem dX11_isLureHere_85 : decode cX11_isLureHere 85 = .ok (.aload_n 0, 1) := by decide +kernel
theorem dX11_isLureHere_86 : decode cX11_isLureHere 86 = .ok (.bipush 50, 2) := by decide +kernel
theorem dX11_isLureHere_88 : decode cX11_isLureHere 88 = .ok (.iload_n 2, 1) := by decide +kernel
theorem dX11_isLureHere_89 : decode cX11_isLureHere 89 = .ok (.iadd, 1) := by decide +kernel
theorem dX11_isLureHere_90 : decode cX11_isLureHere 90 = .ok (.iconst 1, 1) := by decide +kernel
theorem dX11_isLureHere_91 : decode cX11_isLureHere 91 = .ok (.bipush 20, 2) := by decide +kernel
theorem dX11_isLureHere_93 : decode cX11_isLureHere 93 = .ok (.invokevirtual 219, 3) := by decide +kernel
theorem dX11_isLureHere_96 : decode cX11_isLureHere 96 = .ok (.ifCond .ne 5, 3) := by decide +kernel
theorem dX11_isLureHere_99 : decode cX11_isLureHere 99 = .ok (.iconst 0, 1) := by decide +kernel
theorem dX11_isLureHere_100 : decode cX11_isLureHere 100 = .ok (.ireturn, 1) := by decide +kernel
theorem dX11_isLureHere_101 : decode cX11_isLureHere 101 = .ok (.aload_n 0, 1) := by decide +kernel
theorem dX11_isLureHere_102 : decode cX11_isLureHere 102 = .ok (.getfield 26, 3) := by decide +kernel
theorem dX11_isLureHere_105 : decode cX11_isLureHere 105 = .ok (.iconst 3, 1) := by decide +kernel
theorem dX11_isLureHere_106 : decode cX11_isLureHere 106 = .ok (.dup2, 1) := by decide +kernel
theorem dX11_isLureHere_107 : decode cX11_isLureHere 107 = .ok (.iaload, 1) := by decide +kernel
theorem dX11_isLureHere_108 : decode cX11_isLureHere 108 = .ok (.iconst 1, 1) := by decide +kernel
theorem dX11_isLureHere_109 : decode cX11_isLureHere 109 = .ok (.iadd, 1) := by decide +kernel
theorem dX11_isLureHere_110 : decode cX11_isLureHere 110 = .ok (.iastore, 1) := by decide +kernel
theorem dX11_isLureHere_111 : decode cX11_isLureHere 111 = .ok (.iconst 1, 1) := by decide +kernel
theorem dX11_isLureHere_112 : decode cX11_isLureHere 112 = .ok (.ireturn, 1) := by decide +kernel
theorem dX11_isTownHere_0 : decode cX11_isTownHere 0 = .ok (.aload_n 0, 1) := by decide +kernel
theorem dX11_isTownHere_1 : decode cX11_isTownHere 1 = .ok (.getfield 26, 3) := by decide +kernel
theorem dX11_isTownHere_4 : decode cX11_isTownHere 4 = .ok (.iconst 0, 1) := by decide +kernel
theorem dX11_isTownHere_5 : decode cX11_isTownHere 5 = .ok (.iaload, 1) := by decide +kernel
theorem dX11_isTownHere_6 : decode cX11_isTownHere 6 = .ok (.ifCond .le 10, 3) := by decide +kernel
theorem dX11_isTownHere_9 : decode cX11_isTownHere 9 = .ok (.aload_n 0, 1) := by decide +kernel
theorem dX11_isTownHere_10 : decode cX11_isTownHere 10 = .ok (.iconst 4, 1) := by decide +kernel
theorem dX11_isTownHere_11 : decode cX11_isTownHere 11 = .ok (.iload_n 1, 1) := by decide +kernel
theorem dX11_isTownHere_12 : decode cX11_isTownHere 12 = .ok (.invokevirtual 114, 3) := by decide +kernel
theorem dX11_isTownHere_15 : decode cX11_isTownHere 15 = .ok (.ireturn, 1) := by decide +kernel
theorem dX11_isTownHere_16 : decode cX11_isTownHere 16 = .ok (.aload_n 0, 1) := by decide +kernel
theorem dX11_isTownHere_17 : decode cX11_isTownHere 17 = .ok (.invokevirtual 108, 3) := by decide +kernel
theorem dX11_isTownHere_20 : decode cX11_isTownHere 20 = .ok (.aload_n 0, 1) := by decide +kernel
theorem dX11_isTownHere_21 : decode cX11_isTownHere 21 = .ok (.iconst 1, 1) := by decide +kernel
theorem dX11_isTownHere_22 : decode cX11_isTownHere 22 = .ok (.iconst 2, 1) := by decide +kernel
theorem dX11_isTownHere_23 : decode cX11_isTownHere 23 = .ok (.bipush 8, 2) := by decide +kernel
theorem dX11_isTownHere_25 : decode cX11_isTownHere 25 = .ok (.invokevirtual 219, 3) := by decide +kernel
theorem dX11_isTownHere_28 : decode cX11_isTownHere 28 = .ok (.ifCond .ne 5, 3) := by decide +kernel
theorem dX11_isTownHere_31 : decode cX11_isTownHere 31 = .ok (.iconst 0, 1) := by decide +kernel
theorem dX11_isTownHere_32 : decode cX11_isTownHere 32 = .ok (.ireturn, 1) := by decide +kernel
theorem dX11_isTownHere_33 : decode cX11_isTownHere 33 = .ok (.aload_n 0, 1) := by decide +kernel
theorem dX11_isTownHere_34 : decode cX11_isTownHere 34 = .ok (.getfield 26, 3) := by decide +kernel
theorem dX11_isTownHere_37 : decode cX11_isTownHere 37 = .ok (.iconst 0, 1) := by decide +kernel
theorem dX11_isTownHere_38 : decode cX11_isTownHere 38 = .ok (.iconst 1, 1) := by decide +kernel
theorem dX11_isTownHere_39 : decode cX11_isTownHere 39 = .ok (.iastore, 1) := by decide +kernel
theorem dX11_isTownHere_40 : decode cX11_isTownHere 40 = .ok (.iconst 1, 1) := by decide +kernel
theorem dX11_isTownHere_41 : decode cX11_isTownHere 41 = .ok (.ireturn, 1) := by decide +kernel
theorem dX11_isWalkerHere_0 : decode cX11_isWalkerHere 0 = .ok (.aload_n 0, 1) := by decide +kernel
theorem dX11_isWalkerHere_1 : decode cX11_isWalkerHere 1 = .ok (.getfield 26, 3) := by decide +kernel
theorem dX11_isWalkerHere_4 : decode cX11_isWalkerHere 4 = .ok (.iconst 4, 1) := by decide +kernel
theorem dX11_isWalkerHere_5 : decode cX11_isWalkerHere 5 = .ok (.iaload, 1) := by decide +kernel
theorem dX11_isWalkerHere_6 : decode cX11_isWalkerHere 6 = .ok (.iconst 5, 1) := by decide +kernel
theorem dX11_isWalkerHere_7 : decode cX11_isWalkerHere 7 = .ok (.if_icmp .ne 10, 3) := by decide +kernel
theorem dX11_isWalkerHere_10 : decode cX11_isWalkerHere 10 = .ok (.aload_n 0, 1) := by decide +kernel
theorem dX11_isWalkerHere_11 : decode cX11_isWalkerHere 11 = .ok (.iconst 4, 1) := by decide +kernel
theorem dX11_isWalkerHere_12 : decode cX11_isWalkerHere 12 = .ok (.iload_n 1, 1) := by decide +kernel
theorem dX11_isWalkerHere_13 : decode cX11_isWalkerHere 13 = .ok (.invokevirtual 114, 3) := by decide +kernel
theorem dX11_isWalkerHere_16 : decode cX11_isWalkerHere 16 = .ok (.ireturn, 1) := by decide +kernel
theorem dX11_isWalkerHere_17 : decode cX11_isWalkerHere 17 = .ok (.aload_n 0, 1) := by decide +kernel
theorem dX11_isWalkerHere_18 : decode cX11_isWalkerHere 18 = .ok (.invokevirtual 108, 3) := by decide +kernel
theorem dX11_isWalkerHere_21 : decode cX11_isWalkerHere 21 = .ok (.aload_n 0, 1) := by decide +kernel
theorem dX11_isWalkerHere_22 : decode cX11_isWalkerHere 22 = .ok (.getfield 26, 3) := by decide +kernel
theorem dX11_isWalkerHere_25 : decode cX11_isWalkerHere 25 = .ok (.iconst 4, 1) := by decide +kernel
theorem dX11_isWalkerHere_26 : decode cX11_isWalkerHere 26 = .ok (.iaload, 1) := by decide +kernel
theorem dX11_isWalkerHere_27 : decode cX11_isWalkerHere 27 = .ok (.istore_n 2, 1) := by decide +kernel
theorem dX11_isWalkerHere_28 : decode cX11_isWalkerHere 28 = .ok (.aload_n 0, 1) := by decide +kernel
theorem dX11_isWalkerHere_29 : decode cX11_isWalkerHere 29 = .ok (.bipush 78, 2) := by decide +kernel
theorem dX11_isWalkerHere_31 : decode cX11_isWalkerHere 31 = .ok (.iconst 2, 1) := by decide +kernel
theorem dX11_isWalkerHere_32 : decode cX11_isWalkerHere 32 = .ok (.iload_n 2, 1) := by decide +kernel
theorem dX11_isWalkerHere_33 : decode cX11_isWalkerHere 33 = .ok (.imul, 1) := by decide +kernel
theorem dX11_isWalkerHere_34 : decode cX11_isWalkerHere 34 = .ok (.iadd, 1) := by decide +kernel
theorem dX11_isWalkerHere_35 : decode cX11_isWalkerHere 35 = .ok (.iconst 0, 1) := by decide +kernel
theorem dX11_isWalkerHere_36 : decode cX11_isWalkerHere 36 = .ok (.aload_n 0, 1) := by decide +kernel
theorem dX11_isWalkerHere_37 : decode cX11_isWalkerHere 37 = .ok (.getfield 26, 3) := by decide +kernel
theorem dX11_isWalkerHere_40 : decode cX11_isWalkerHere 40 = .ok (.iconst 1, 1) := by decide +kernel
theorem dX11_isWalkerHere_41 : decode cX11_isWalkerHere 41 = .ok (.iaload, 1) := by decide +kernel
theorem dX11_isWalkerHere_42 : decode cX11_isWalkerHere 42 = .ok (.iconst 1, 1) := by decide +kernel
theorem dX11_isWalkerHere_43 : decode cX11_isWalkerHere 43 = .ok (.isub, 1) := by decide +kernel
theorem dX11_isWalkerHere_44 : decode cX11_isWalkerHere 44 = .ok (.invokevirtual 219, 3) := by decide +kernel
theorem dX11_isWalkerHere_47 : decode cX11_isWalkerHere 47 = .ok (.ifCond .eq 23, 3) := by decide +kernel
theorem dX11_isWalkerHere_50 : decode cX11_isWalkerHere 50 = .ok (.aload_n 0, 1) := by decide +kernel
theorem dX11_isWalkerHere_51 : decode cX11_isWalkerHere 51 = .ok (.bipush 56, 2) := by decide +kernel
theorem dX11_isWalkerHere_53 : decode cX11_isWalkerHere 53 = .ok (.iload_n 2, 1) := by decide +kernel
theorem dX11_isWalkerHere_54 : decode cX11_isWalkerHere 54 = .ok (.iadd, 1) := by decide +kernel
theorem dX11_isWalkerHere_55 : decode cX11_isWalkerHere 55 = .ok (.iconst 0, 1) := by decide +kernel
theorem dX11_isWalkerHere_56 : decode cX11_isWalkerHere 56 = .ok (.aload_n 0, 1) := by decide +kernel
theorem dX11_isWalkerHere_57 : decode cX11_isWalkerHere 57 = .ok (.getfield 26, 3) := by decide +kernel
theorem dX11_isWalkerHere_60 : decode cX11_isWalkerHere 60 = .ok (.iconst 1, 1) := by decide +kernel
theorem dX11_isWalkerHere_61 : decode cX11_isWalkerHere 61 = .ok (.iaload, 1) := by decide +kernel
theorem dX11_isWalkerHere_62 : decode cX11_isWalkerHere 62 = .ok (.iconst 1, 1) := by decide +kernel
theorem dX11_isWalkerHere_63 : decode cX11_isWalkerHere 63 = .ok (.isub, 1) := by decide +kernel
theorem dX11_isWalkerHere_64 : decode cX11_isWalkerHere 64 = .ok (.invokevirtual 219, 3) := by decide +kernel
theorem dX11_isWalkerHere_67 : decode cX11_isWalkerHere 67 = .ok (.ifCond .ne 5, 3) := by decide +kernel
theorem dX11_isWalkerHere_70 : decode cX11_isWalkerHere 70 = .ok (.iconst 0, 1) := by decide +kernel
theorem dX11_isWalkerHere_71 : decode cX11_isWalkerHere 71 = .ok (.ireturn, 1) := by decide +kernel
theorem dX11_isWalkerHere_72 : decode cX11_isWalkerHere 72 = .ok (.aload_n 0, 1) := by decide +kernel
theorem dX11_isWalkerHere_73 : decode cX11_isWalkerHere 73 = .ok (.bipush 61, 2) := by decide +kernel
theorem dX11_isWalkerHere_75 : decode cX11_isWalkerHere 75 = .ok (.iload_n 2, 1) := by decide +kernel
theorem dX11_isWalkerHere_76 : decode cX11_isWalkerHere 76 = .ok (.iadd, 1) := by decide +kernel
theorem dX11_isWalkerHere_77 : decode cX11_isWalkerHere 77 = .ok (.iconst 0, 1) := by decide +kernel
theorem dX11_isWalkerHere_78 : decode cX11_isWalkerHere 78 = .ok (.bipush 7, 2) := by decide +kernel
theorem dX11_isWalkerHere_80 : decode cX11_isWalkerHere 80 = .ok (.invokevirtual 219, 3) := by decide +kernel
theorem dX11_isWalkerHere_83 : decode cX11_isWalkerHere 83 = .ok (.ifCond .eq 21, 3) := by decide +kernel
theorem dX11_isWalkerHere_86 : decode cX11_isWalkerHere 86 = .ok (.aload_n 0, 1) := by decide +kernel
theorem dX11_isWalkerHere_87 : decode cX11_isWalkerHere 87 = .ok (.bipush 78, 2) := by decide +kernel
theorem dX11_isWalkerHere_89 : decode cX11_isWalkerHere 89 = .ok (.iconst 2, 1) := by decide +kernel
theorem dX11_isWalkerHere_90 : decode cX11_isWalkerHere 90 = .ok (.iload_n 2, 1) := by decide +kernel
theorem dX11_isWalkerHere_91 : decode cX11_isWalkerHere 91 = .ok (.imul, 1) := by decide +kernel
theorem dX11_isWalkerHere_92 : decode cX11_isWalkerHere 92 = .ok (.iadd, 1) := by decide +kernel
theorem dX11_isWalkerHere_93 : decode cX11_isWalkerHere 93 = .ok (.iconst 1, 1) := by decide +kernel
theorem dX11_isWalkerHere_94 : decode cX11_isWalkerHere 94 = .ok (.iadd, 1) := by decide +kernel
theorem dX11_isWalkerHere_95 : decode cX11_isWalkerHere 95 = .ok (.iconst 0, 1) := by decide +kernel
theorem dX11_isWalkerHere_96 : decode cX11_isWalkerHere 96 = .ok (.bipush 9, 2) := by decide +kernel
theorem dX11_isWalkerHere_98 : decode cX11_isWalkerHere 98 = .ok (.invokevirtual 219, 3) := by decide +kernel
theorem dX11_isWalkerHere_101 : decode cX11_isWalkerHere 101 = .ok (.ifCond .ne 5, 3) := by decide +kernel
theorem dX11_isWalkerHere_104 : decode cX11_isWalkerHere 104 = .ok (.iconst 0, 1) := by decide +kernel
theorem dX11_isWalkerHere_105 : decode cX11_isWalkerHere 105 = .ok (.ireturn, 1) := by decide +kernel
theorem dX11_isWalkerHere_106 : decode cX11_isWalkerHere 106 = .ok (.aload_n 0, 1) := by decide +kernel
theorem dX11_isWalkerHere_107 : decode cX11_isWalkerHere 107 = .ok (.getfield 26, 3) := by decide +kernel
theorem dX11_isWalkerHere_110 : decode cX11_isWalkerHere 110 = .ok (.iconst 4, 1) := by decide +kernel
theorem dX11_isWalkerHere_111 : decode cX11_isWalkerHere 111 = .ok (.dup2, 1) := by decide +kernel
theorem dX11_isWalkerHere_112 : decode cX11_isWalkerHere 112 = .ok (.iaload, 1) := by decide +kernel
theorem dX11_isWalkerHere_113 : decode cX11_isWalkerHere 113 = .ok (.iconst 1, 1) := by decide +kernel
theorem dX11_isWalkerHere_114 : decode cX11_isWalkerHere 114 = .ok (.iadd, 1) := by decide +kernel
theorem dX11_isWalkerHere_115 : decode cX11_isWalkerHere 115 = .ok (.iastore, 1) := by decide +kernel
theorem dX11_isWalkerHere_116 : decode cX11_isWalkerHere 116 = .ok (.iconst 1, 1) := by decide +kernel
theorem dX11_isWalkerHere_117 : decode cX11_isWalkerHere 117 = .ok (.ireturn, 1) := by decide +kernel
theorem dX11_isWayHere_0 : decode cX11_isWayHere 0 = .ok (.aload_n 0, 1) := by decide +kernel
theorem dX11_isWayHere_1 : decode cX11_isWayHere 1 = .ok (.invokevirtual 108, 3) := by decide +kernel
theorem dX11_isWayHere_4 : decode cX11_isWayHere 4 = .ok (.aload_n 0, 1) := by decide +kernel
theorem dX11_isWayHere_5 : decode cX11_isWayHere 5 = .ok (.iconst 0, 1) := by decide +kernel
theorem dX11_isWayHere_6 : decode cX11_isWayHere 6 = .ok (.aload_n 0, 1) := by decide +kernel
theorem dX11_isWayHere_7 : decode cX11_isWayHere 7 = .ok (.getfield 26, 3) := by decide +kernel
theorem dX11_isWayHere_10 : decode cX11_isWayHere 10 = .ok (.iconst 1, 1) := by decide +kernel
theorem dX11_isWayHere_11 : decode cX11_isWayHere 11 = .ok (.iaload, 1) := by decide +kernel
theorem dX11_isWayHere_12 : decode cX11_isWayHere 12 = .ok (.iconst 1, 1) := by decide +kernel
theorem dX11_isWayHere_13 : decode cX11_isWayHere 13 = .ok (.isub, 1) := by decide +kernel
theorem dX11_isWayHere_14 : decode cX11_isWayHere 14 = .ok (.invokevirtual 168, 3) := by decide +kernel
theorem dX11_isWayHere_17 : decode cX11_isWayHere 17 = .ok (.ifCond .ne 5, 3) := by decide +kernel
theorem dX11_isWayHere_20 : decode cX11_isWayHere 20 = .ok (.iconst 0, 1) := by decide +kernel
theorem dX11_isWayHere_21 : decode cX11_isWayHere 21 = .ok (.ireturn, 1) := by decide +kernel
theorem dX11_isWayHere_22 : decode cX11_isWayHere 22 = .ok (.aload_n 0, 1) := by decide +kernel
theorem dX11_isWayHere_23 : decode cX11_isWayHere 23 = .ok (.getfield 118, 3) := by decide +kernel
theorem dX11_isWayHere_26 : decode cX11_isWayHere 26 = .ok (.istore_n 1, 1) := by decide +kernel
theorem dX11_isWayHere_27 : decode cX11_isWayHere 27 = .ok (.aload_n 0, 1) := by decide +kernel
theorem dX11_isWayHere_28 : decode cX11_isWayHere 28 = .ok (.invokevirtual 96, 3) := by decide +kernel
theorem dX11_isWayHere_31 : decode cX11_isWayHere 31 = .ok (.pop, 1) := by decide +kernel
theorem dX11_isWayHere_32 : decode cX11_isWayHere 32 = .ok (.aload_n 0, 1) := by decide +kernel
theorem dX11_isWayHere_33 : decode cX11_isWayHere 33 = .ok (.getfield 93, 3) := by decide +kernel
theorem dX11_isWayHere_36 : decode cX11_isWayHere 36 = .ok (.istore_n 2, 1) := by decide +kernel
theorem dX11_isWayHere_37 : decode cX11_isWayHere 37 = .ok (.aload_n 0, 1) := by decide +kernel
theorem dX11_isWayHere_38 : decode cX11_isWayHere 38 = .ok (.iconst 0, 1) := by decide +kernel
theorem dX11_isWayHere_39 : decode cX11_isWayHere 39 = .ok (.aload_n 0, 1) := by decide +kernel
theorem dX11_isWayHere_40 : decode cX11_isWayHere 40 = .ok (.getfield 26, 3) := by decide +kernel
theorem dX11_isWayHere_43 : decode cX11_isWayHere 43 = .ok (.iconst 1, 1) := by decide +kernel
theorem dX11_isWayHere_44 : decode cX11_isWayHere 44 = .ok (.iaload, 1) := by decide +kernel
theorem dX11_isWayHere_45 : decode cX11_isWayHere 45 = .ok (.iconst 1, 1) := by decide +kernel
theorem dX11_isWayHere_46 : decode cX11_isWayHere 46 = .ok (.isub, 1) := by decide +kernel
theorem dX11_isWayHere_47 : decode cX11_isWayHere 47 = .ok (.invokevirtual 168, 3) := by decide +kernel
theorem dX11_isWayHere_50 : decode cX11_isWayHere 50 = .ok (.ifCond .ne 5, 3) := by decide +kernel
theorem dX11_isWayHere_53 : decode cX11_isWayHere 53 = .ok (.iconst 0, 1) := by decide +kernel
theorem dX11_isWayHere_54 : decode cX11_isWayHere 54 = .ok (.ireturn, 1) := by decide +kernel
theorem dX11_isWayHere_55 : decode cX11_isWayHere 55 = .ok (.iload_n 1, 1) := by decide +kernel
theorem dX11_isWayHere_56 : decode cX11_isWayHere 56 = .ok (.aload_n 0, 1) := by decide +kernel
theorem dX11_isWayHere_57 : decode cX11_isWayHere 57 = .ok (.getfield 118, 3) := by decide +kernel
theorem dX11_isWayHere_60 : decode cX11_isWayHere 60 = .ok (.if_icmp .ne 10, 3) := by decide +kernel
theorem dX11_isWayHere_63 : decode cX11_isWayHere 63 = .ok (.aload_n 0, 1) := by decide +kernel
theorem dX11_isWayHere_64 : decode cX11_isWayHere 64 = .ok (.iconst 1, 1) := by decide +kernel
theorem dX11_isWayHere_65 : decode cX11_isWayHere 65 = .ok (.iload_n 2, 1) := by decide +kernel
theorem dX11_isWayHere_66 : decode cX11_isWayHere 66 = .ok (.invokevirtual 114, 3) := by decide +kernel
theorem dX11_isWayHere_69 : decode cX11_isWayHere 69 = .ok (.ireturn, 1) := by decide +kernel
theorem dX11_isWayHere_70 : decode cX11_isWayHere 70 = .ok (.aload_n 0, 1) := by decide +kernel
theorem dX11_isWayHere_71 : decode cX11_isWayHere 71 = .ok (.getfield 26, 3) := by decide +kernel
theorem dX11_isWayHere_74 : decode cX11_isWayHere 74 = .ok (.bipush 88, 2) := by decide +kernel
theorem dX11_isWayHere_76 : decode cX11_isWayHere 76 = .ok (.iload_n 1, 1) := by decide +kernel
theorem dX11_isWayHere_77 : decode cX11_isWayHere 77 = .ok (.iadd, 1) := by decide +kernel
theorem dX11_isWayHere_78 : decode cX11_isWayHere 78 = .ok (.iaload, 1) := by decide +kernel
theorem dX11_isWayHere_79 : decode cX11_isWayHere 79 = .ok (.aload_n 0, 1) := by decide +kernel
theorem dX11_isWayHere_80 : decode cX11_isWayHere 80 = .ok (.getfield 118, 3) := by decide +kernel
theorem dX11_isWayHere_83 : decode cX11_isWayHere 83 = .ok (.ishr, 1) := by decide +kernel
theorem dX11_isWayHere_84 : decode cX11_isWayHere 84 = .ok (.iconst 1, 1) := by decide +kernel
theorem dX11_isWayHere_85 : decode cX11_isWayHere 85 = .ok (.iand, 1) := by decide +kernel
theorem dX11_isWayHere_86 : decode cX11_isWayHere 86 = .ok (.ifCond .ne 13, 3) := by decide +kernel
theorem dX11_isWayHere_89 : decode cX11_isWayHere 89 = .ok (.aload_n 0, 1) := by decide +kernel
theorem dX11_isWayHere_90 : decode cX11_isWayHere 90 = .ok (.getfield 26, 3) := by decide +kernel
theorem dX11_isWayHere_93 : decode cX11_isWayHere 93 = .ok (.iconst 2, 1) := by decide +kernel
theorem dX11_isWayHere_94 : decode cX11_isWayHere 94 = .ok (.dup2, 1) := by decide +kernel
theorem dX11_isWayHere_95 : decode cX11_isWayHere 95 = .ok (.iaload, 1) := by decide +kernel
theorem dX11_isWayHere_96 : decode cX11_isWayHere 96 = .ok (.iconst 1, 1) := by decide +kernel
theorem dX11_isWayHere_97 : decode cX11_isWayHere 97 = .ok (.iadd, 1) := by decide +kernel
theorem dX11_isWayHere_98 : decode cX11_isWayHere 98 = .ok (.iastore, 1) := by decide +kernel
theorem dX11_isWayHere_99 : decode cX11_isWayHere 99 = .ok (.aload_n 0, 1) := by decide +kernel
theorem dX11_isWayHere_100 : decode cX11_isWayHere 100 = .ok (.getfield 26, 3) := by decide +kernel
theorem dX11_isWayHere_103 : decode cX11_isWayHere 103 = .ok (.bipush 88, 2) := by decide +kernel
theorem dX11_isWayHere_105 : decode cX11_isWayHere 105 = .ok (.iload_n 1, 1) := by decide +kernel
theorem dX11_isWayHere_106 : decode cX11_isWayHere 106 = .ok (.iadd, 1) := by decide +kernel
theorem dX11_isWayHere_107 : decode cX11_isWayHere 107 = .ok (.dup2, 1) := by decide +kernel
theorem dX11_isWayHere_108 : decode cX11_isWayHere 108 = .ok (.iaload, 1) := by decide +kernel
theorem dX11_isWayHere_109 : decode cX11_isWayHere 109 = .ok (.iconst 1, 1) := by decide +kernel
theorem dX11_isWayHere_110 : decode cX11_isWayHere 110 = .ok (.aload_n 0, 1) := by decide +kernel
theorem dX11_isWayHere_111 : decode cX11_isWayHere 111 = .ok (.getfield 118, 3) := by decide +kernel
theorem dX11_isWayHere_114 : decode cX11_isWayHere 114 = .ok (.ishl, 1) := by decide +kernel
theorem dX11_isWayHere_115 : decode cX11_isWayHere 115 = .ok (.ior, 1) := by decide +kernel
theorem dX11_isWayHere_116 : decode cX11_isWayHere 116 = .ok (.iastore, 1) := by decide +kernel
theorem dX11_isWayHere_117 : decode cX11_isWayHere 117 = .ok (.aload_n 0, 1) := by decide +kernel
theorem dX11_isWayHere_118 : decode cX11_isWayHere 118 = .ok (.getfield 26, 3) := by decide +kernel
theorem dX11_isWayHere_121 : decode cX11_isWayHere 121 = .ok (.bipush 88, 2) := by decide +kernel
theorem dX11_isWayHere_123 : decode cX11_isWayHere 123 = .ok (.aload_n 0, 1) := by decide +kernel
theorem dX11_isWayHere_124 : decode cX11_isWayHere 124 = .ok (.getfield 118, 3) := by decide +kernel
theorem dX11_isWayHere_127 : decode cX11_isWayHere 127 = .ok (.iadd, 1) := by decide +kernel
theorem dX11_isWayHere_128 : decode cX11_isWayHere 128 = .ok (.dup2, 1) := by decide +kernel
theorem dX11_isWayHere_129 : decode cX11_isWayHere 129 = .ok (.iaload, 1) := by decide +kernel
theorem dX11_isWayHere_130 : decode cX11_isWayHere 130 = .ok (.iconst 1, 1) := by decide +kernel
theorem dX11_isWayHere_131 : decode cX11_isWayHere 131 = .ok (.iload_n 1, 1) := by decide +kernel
theorem dX11_isWayHere_132 : decode cX11_isWayHere 132 = .ok (.ishl, 1) := by decide +kernel
theorem dX11_isWayHere_133 : decode cX11_isWayHere 133 = .ok (.ior, 1) := by decide +kernel
theorem dX11_isWayHere_134 : decode cX11_isWayHere 134 = .ok (.iastore, 1) := by decide +kernel
theorem dX11_isWayHere_135 : decode cX11_isWayHere 135 = .ok (.iconst 1, 1) := by decide +kernel
theorem dX11_isWayHere_136 : decode cX11_isWayHere 136 = .ok (.ireturn, 1) := by decide +kernel
theorem hd_X11_cellHere : yX11_cellHere.cls ≠ "java/lang/invoke/MethodHandle" ∧ yX11_cellHere.cls ≠ "java/lang/invoke/VarHandle" ∧ (parseMethodDescriptor yX11_cellHere.desc).map (fun d => d.parameters.length) = some 3 := ⟨by decide +kernel, by decide +kernel, by decide +kernel⟩
set_option maxHeartbeats 4000000 in
set_option maxRecDepth 100000 in
theorem v_isTownHere (l : Launch) (D : va_G) (K : Nat → ClassId) (ad : Nat → Nat) (z : TS) (o : Ok z) (x1 : Int32) (hn : NXx z) : cI l yX11_isTownHere cX11_isTownHere 2 .boolean ({ frames := 3, cells := 0, slots := 0, locals := 72 }) D K ad z [.ref (ad 386), .int x1] (fun r u => Ok u ∧ KTn z u ∧ iv 0 1 r ∧ (Scx z u)) := by
  have sc0 : Scx z z := Scx.rf hn
  refine t_enterI (by decide) (Nat.le_of_ble_eq_true rfl) rfl rfl ?_
  intro p e s m args below meth c A R Q H locs ls E hfr hlo RET G hl
  have E : mE p s m meth c cX11_isTownHere args 2 RX11 D K A := E
  have hl : lv_has ls 2 [(0, .ref (ad 386)), (1, .int x1)] := hl
  refine lv_aload_n E.1 E.2.1 dX11_isTownHere_0 rfl (lv_at hl 0 rfl) ?_
  refine t_get E G 11 7 (rfl : ro 386 = 11) (C := RX11) (T := TX11) (N := 37) rfl (by decide) (by decide) (by decide) mw_fl_11_26 (v := .ref (ad 392)) (fvl_o (n := 6) rfl) dX11_isTownHere_1 ?_
  refine lv_iconst (v := 0) E.1 E.2.1 dX11_isTownHere_4 (by decide) ?_
  refine t_iald E G 50 (rfl : ro 392 = 50) (by decide) (by decide) rfl (n := 96) rfl (by unfold vp_in; decide) dX11_isTownHere_5 ?_
  refine lv_topi (fun v1 e2 => ?_)
  have b3 : iv 0 1 v1 := by rw [e2]; exact iv_mono (o.a 50 (rfl : ro 392 = 50) _) (by decide +kernel) (by decide +kernel)
  refine lv_if_le (tgt := 16) E.1 E.2.1 dX11_isTownHere_6 (by decide) (fun c4 => ?_) (fun c4 => ?_)
  · skip
    have b5 : iv 0 0 v1 := le_l c4 b3 (iv_lit (lo := 0) (hi := 0) 0 (by decide) (by decide)) (by decide)
    refine lv_aload_n E.1 E.2.1 dX11_isTownHere_16 rfl (lv_at hl 0 rfl) ?_
    refine t_vv E G hl (v_passWord l D K ad z o sc0.1) 11 (rfl : ro 386 = 11) (by decide) rfl rfl 0 rfl mw_code_X11_passWord mw_ini_11 mw_ml_11_108 mw_inst_X11_passWord mw_sel_X11_passWord hd_X11_passWord ⟨Nat.le_trans (by decide) hfr, Nat.le_trans (by decide) hlo⟩ rfl rfl rfl (Nat.le_of_ble_eq_true rfl) dX11_isTownHere_17 (fun zz6 H locs hp8 G => ?_)
    obtain ⟨oo9, kk10, h11, h12⟩ := hp8
    have kk13 : KTn z zz6 := KF.tr KF.rf (KN8.t kk10)
    have h14 := Scx.tr sc0 h11
    have h15 : tA zz6 392 (0 : Int32).toNatClampNeg = v1 := by rw [(kk10.2.1 392 rfl).1]; exact e2.symm
    refine lv_aload_n E.1 E.2.1 dX11_isTownHere_20 rfl (lv_at hl 0 rfl) ?_
    refine lv_iconst (v := 1) E.1 E.2.1 dX11_isTownHere_21 (by decide) ?_
    refine lv_iconst (v := 2) E.1 E.2.1 dX11_isTownHere_22 (by decide) ?_
    refine lv_bipush (v := 8) E.1 E.2.1 dX11_isTownHere_23 (by decide) ?_
    refine t_vi E G hl (v_cellHere l D K ad zz6 oo9 (1 : Int32) (iv_mono (iv_lit (lo := 1) (hi := 1) 1 (by decide) (by decide)) (by decide) (by decide)) (2 : Int32) (8 : Int32) h14.1 (fun v p q => (iv_mono (show iv 2 8 v from ⟨by have := (iv_lit (lo := 2) (hi := 2) 2 (by decide) (by decide)).1; omega, by have := (iv_lit (lo := 8) (hi := 8) 8 (by decide) (by decide)).2; omega⟩) (by decide +kernel) (by decide +kernel)))) 11 (rfl : ro 386 = 11) (by decide) rfl rfl 3 rfl mw_code_X11_cellHere mw_ini_11 mw_ml_11_219 mw_inst_X11_cellHere mw_sel_X11_cellHere hd_X11_cellHere ⟨Nat.le_trans (by decide) hfr, Nat.le_trans (by decide) hlo⟩ rfl rfl rfl (Nat.le_of_ble_eq_true rfl) dX11_isTownHere_25 (fun r17 zz16 H locs hp18 G => ?_)
    obtain ⟨oo19, kk20, b21, h22, h23⟩ := hp18
    have kk24 : KTn z zz16 := KF.tr kk13 kk20
    have h25 := Scx.tr h14 h22
    have h26 : tA zz16 392 (0 : Int32).toNatClampNeg = v1 := (h23 _ (cl_ne (iv_lit (lo := 1) (hi := 1) 1 (by decide) (by decide)) 0 (by decide))).trans h15
    refine lv_if_ne (tgt := 33) E.1 E.2.1 dX11_isTownHere_28 (by decide) (fun c27 => ?_) (fun c27 => ?_)
    · skip
      have b28 : iv 1 1 r17 := ne_lo c27 b21 (by decide) (by decide)
      refine lv_aload_n E.1 E.2.1 dX11_isTownHere_33 rfl (lv_at hl 0 rfl) ?_
      refine t_get E G 11 7 (rfl : ro 386 = 11) (C := RX11) (T := TX11) (N := 37) rfl (by decide) (by decide) (by decide) mw_fl_11_26 (v := .ref (ad 392)) (fvl_o (n := 6) rfl) dX11_isTownHere_34 ?_
      refine lv_iconst (v := 0) E.1 E.2.1 dX11_isTownHere_37 (by decide) ?_
      refine lv_iconst (v := 1) E.1 E.2.1 dX11_isTownHere_38 (by decide) ?_
      refine t_iast E G 50 (rfl : ro 392 = 50) (by decide) (by decide) rfl (n := 96) rfl (by unfold vp_in; decide) dX11_isTownHere_39 (fun H locs G => ?_)
      obtain ⟨zz30, G, oo31, kk32, h29⟩ : ∃ u : TS, mG D A s H locs (wd K ad u) ∧ Ok u ∧ KTn z u ∧ (Scx z u) := ⟨_, G, ok_u oo19 50 (rfl : ro 392 = 50) (iv_mono (iv_lit (lo := 1) (hi := 1) 1 (by decide) (by decide)) (by decide +kernel) (by decide +kernel)) (by decide), KF.tr kk24 (KF_r 50 (rfl : ro 392 = 50) (by decide)), h25⟩
      refine lv_iconst (v := 1) E.1 E.2.1 dX11_isTownHere_40 (by decide) ?_
      exact RET G ⟨oo31, kk32, (iv_mono (iv_lit (lo := 1) (hi := 1) 1 (by decide) (by decide)) (by decide) (by decide)), h29⟩ (by decide) dX11_isTownHere_41
    · skip
      have b33 : iv 0 0 r17 := iv_eq c27 (iv_lit (lo := 0) (hi := 0) 0 (by decide) (by decide))
      refine lv_iconst (v := 0) E.1 E.2.1 dX11_isTownHere_31 (by decide) ?_
      exact RET G ⟨oo19, kk24, (iv_mono (iv_lit (lo := 0) (hi := 0) 0 (by decide) (by decide)) (by decide) (by decide)), h25⟩ (by decide) dX11_isTownHere_32
  · skip
    have b34 : iv 1 1 v1 := lt_r (Int32.not_le.mp c4) (iv_lit (lo := 0) (hi := 0) 0 (by decide) (by decide)) b3 (by decide)
    refine lv_aload_n E.1 E.2.1 dX11_isTownHere_9 rfl (lv_at hl 0 rfl) ?_
    refine lv_iconst (v := 4) E.1 E.2.1 dX11_isTownHere_10 (by decide) ?_
    refine lv_iload_n E.1 E.2.1 dX11_isTownHere_11 rfl (lv_at hl 1 rfl) ?_
    refine t_vi E G hl (v_fails l D K ad z o (4 : Int32) x1) 11 (rfl : ro 386 = 11) (by decide) rfl rfl 2 rfl mw_code_X11_fails mw_ini_11 mw_ml_11_114 mw_inst_X11_fails mw_sel_X11_fails hd_X11_fails ⟨Nat.le_trans (by decide) hfr, Nat.le_trans (by decide) hlo⟩ rfl rfl rfl (Nat.le_of_ble_eq_true rfl) dX11_isTownHere_12 (fun r36 zz35 H locs hp37 G => ?_)
    obtain ⟨oo38, kk39, b40⟩ := hp37
    have kk41 : KTn z zz35 := KF.tr KF.rf (KA9.t kk39)
    have h42 := Scx.tr sc0 (Scx.k sc0.1 kk39 rfl rfl)
    have h43 : tA zz35 392 (0 : Int32).toNatClampNeg = v1 := by rw [(kk39.2.1 392 rfl).1]; exact e2.symm
    exact RET G ⟨oo38, kk41, (iv_mono b40 (by decide) (by decide)), h42⟩ (nar_b b40) dX11_isTownHere_15
set_option maxHeartbeats 4000000 in
set_option maxRecDepth 100000 in
theorem v_isWayHere (l : Launch) (D : va_G) (K : Nat → ClassId) (ad : Nat → Nat) (z : TS) (o : Ok z) (hn : NXx z) : cI l yX11_isWayHere cX11_isWayHere 3 .boolean ({ frames := 2, cells := 0, slots := 0, locals := 49 }) D K ad z [.ref (ad 386)] (fun r u => Ok u ∧ KTn z u ∧ iv 0 1 r ∧ (Scx z u)) := by
  have sc0 : Scx z z := Scx.rf hn
  refine t_enterI (by decide) (Nat.le_of_ble_eq_true rfl) rfl rfl ?_
  intro p e s m args below meth c A R Q H locs ls E hfr hlo RET G hl
  have E : mE p s m meth c cX11_isWayHere args 3 RX11 D K A := E
  have hl : lv_has ls 3 [(0, .ref (ad 386))] := hl
  refine lv_aload_n E.1 E.2.1 dX11_isWayHere_0 rfl (lv_at hl 0 rfl) ?_
  refine t_vv E G hl (v_passWord l D K ad z o sc0.1) 11 (rfl : ro 386 = 11) (by decide) rfl rfl 0 rfl mw_code_X11_passWord mw_ini_11 mw_ml_11_108 mw_inst_X11_passWord mw_sel_X11_passWord hd_X11_passWord ⟨Nat.le_trans (by decide) hfr, Nat.le_trans (by decide) hlo⟩ rfl rfl rfl (Nat.le_of_ble_eq_true rfl) dX11_isWayHere_1 (fun zz1 H locs hp3 G => ?_)
  obtain ⟨oo4, kk5, h6, h7⟩ := hp3
  have kk8 : KTn z zz1 := KF.tr KF.rf (KN8.t kk5)
  have h9 := Scx.tr sc0 h6
  refine lv_aload_n E.1 E.2.1 dX11_isWayHere_4 rfl (lv_at hl 0 rfl) ?_
  refine lv_iconst (v := 0) E.1 E.2.1 dX11_isWayHere_5 (by decide) ?_
  refine lv_aload_n E.1 E.2.1 dX11_isWayHere_6 rfl (lv_at hl 0 rfl) ?_
  refine t_get E G 11 7 (rfl : ro 386 = 11) (C := RX11) (T := TX11) (N := 37) rfl (by decide) (by decide) (by decide) mw_fl_11_26 (v := .ref (ad 392)) (fvl_o (n := 6) rfl) dX11_isWayHere_7 ?_
  refine lv_iconst (v := 1) E.1 E.2.1 dX11_isWayHere_10 (by decide) ?_
  refine t_iald E G 50 (rfl : ro 392 = 50) (by decide) (by decide) rfl (n := 96) rfl (by unfold vp_in; decide) dX11_isWayHere_11 ?_
  refine lv_topi (fun v10 e11 => ?_)
  have b12 : iv 0 8 v10 := by rw [e11]; exact iv_mono (oo4.a 50 (rfl : ro 392 = 50) _) (by decide +kernel) (by decide +kernel)
  refine lv_iconst (v := 1) E.1 E.2.1 dX11_isWayHere_12 (by decide) ?_
  refine lv_isub E.1 E.2.1 dX11_isWayHere_13 ?_
  refine lv_topi (fun v13 e14 => ?_)
  have b15 : iv (-1) 7 v13 := by rw [e14]; exact iv_sub b12 (iv_lit (lo := 1) (hi := 1) 1 (by decide) (by decide)) (by decide) (by decide) (by decide) (by decide)
  have l16 : v13.toInt = (-1) + 1 * v10.toInt := (show v13.toInt = v10.toInt - 1 by rw [e14]; exact ti_subc 1 (by decide) b12 (by decide) (by decide)).trans (by omega)
  refine t_vi E G hl (v_numberHere l D K ad zz1 oo4 (0 : Int32) v13 h9.1) 11 (rfl : ro 386 = 11) (by decide) rfl rfl 2 rfl mw_code_X11_numberHere mw_ini_11 mw_ml_11_168 mw_inst_X11_numberHere mw_sel_X11_numberHere hd_X11_numberHere ⟨Nat.le_trans (by decide) hfr, Nat.le_trans (by decide) hlo⟩ rfl rfl rfl (Nat.le_of_ble_eq_true rfl) dX11_isWayHere_14 (fun r18 zz17 H locs hp19 G => ?_)
  obtain ⟨oo20, kk21, b22, h23, h24⟩ := hp19
  have kk25 : KTn z zz17 := KF.tr kk8 (KZ.t kk21)
  have h26 := Scx.tr h9 h23
  have h27 : tA zz17 392 (1 : Int32).toNatClampNeg = v10 := by rw [(kk21.2.1 392 rfl).1]; exact e11.symm
  refine lv_if_ne (tgt := 22) E.1 E.2.1 dX11_isWayHere_17 (by decide) (fun c28 => ?_) (fun c28 => ?_)
  · skip
    have b29 : iv 1 1 r18 := ne_lo c28 b22 (by decide) (by decide)
    have h30 := h24 c28
    refine lv_aload_n E.1 E.2.1 dX11_isWayHere_22 rfl (lv_at hl 0 rfl) ?_
    refine t_get E G 11 10 (rfl : ro 386 = 11) (C := RX11) (T := TX11) (N := 37) rfl (by decide) (by decide) (by decide) mw_fl_11_118 (fvl_i rfl) dX11_isWayHere_23 ?_
    refine lv_topi (fun v31 e32 => ?_)
    have b33 : iv 0 99999 v31 := by rw [e32]; exact oo20.i 11 10 (rfl : ro 386 = 11)
    have b34 : iv 0 7 v31 := ⟨by have e := congrArg Int32.toInt e32; have := h30.2.1; have := (iv_lit (lo := 0) (hi := 0) 0 (by decide) (by decide)).1; omega, by have e := congrArg Int32.toInt e32; have := h30.2.2; have := b15.2; omega⟩
    refine lv_istore_n (lv' := [(1, .int v31), (0, .ref (ad 386))]) E.1 E.2.1 dX11_isWayHere_26 rfl hl (by decide) rfl (fun ls hl => ?_)
    refine lv_aload_n E.1 E.2.1 dX11_isWayHere_27 rfl (lv_at hl 1 rfl) ?_
    refine t_vi E G hl (v_see l D K ad zz17 oo20 h26.1) 11 (rfl : ro 386 = 11) (by decide) rfl rfl 0 rfl mw_code_X11_see mw_ini_11 mw_ml_11_96 mw_inst_X11_see mw_sel_X11_see hd_X11_see ⟨Nat.le_trans (by decide) hfr, Nat.le_trans (by decide) hlo⟩ rfl rfl rfl (Nat.le_of_ble_eq_true rfl) dX11_isWayHere_28 (fun r36 zz35 H locs hp37 G => ?_)
    obtain ⟨oo38, kk39, b40, h41, h42, h43, h44⟩ := hp37
    have kk45 : KTn z zz35 := KF.tr kk25 (KN8.t kk39)
    have h46 : tI zz35 386 10 = v31 := KF.i kk39 11 (rfl : ro 386 = 11) (by decide) e32.symm
    have h47 := Scx.tr h26 h41
    have h48 : tA zz35 392 (1 : Int32).toNatClampNeg = v10 := by rw [(kk39.2.1 392 rfl).1]; exact h27
    refine lv_pop E.1 E.2.1 dX11_isWayHere_31 rfl ?_
    refine lv_aload_n E.1 E.2.1 dX11_isWayHere_32 rfl (lv_at hl 1 rfl) ?_
    refine t_get E G 11 8 (rfl : ro 386 = 11) (C := RX11) (T := TX11) (N := 37) rfl (by decide) (by decide) (by decide) mw_fl_11_93 (fvl_i rfl) dX11_isWayHere_33 ?_
    refine lv_topi (fun v49 e50 => ?_)
    have b51 : iv 0 400 v49 := by rw [e50]; exact oo38.i 11 8 (rfl : ro 386 = 11)
    refine lv_istore_n (lv' := [(2, .int v49), (1, .int v31), (0, .ref (ad 386))]) E.1 E.2.1 dX11_isWayHere_36 rfl hl (by decide) rfl (fun ls hl => ?_)
    refine lv_aload_n E.1 E.2.1 dX11_isWayHere_37 rfl (lv_at hl 2 rfl) ?_
    refine lv_iconst (v := 0) E.1 E.2.1 dX11_isWayHere_38 (by decide) ?_
    refine lv_aload_n E.1 E.2.1 dX11_isWayHere_39 rfl (lv_at hl 2 rfl) ?_
    refine t_get E G 11 7 (rfl : ro 386 = 11) (C := RX11) (T := TX11) (N := 37) rfl (by decide) (by decide) (by decide) mw_fl_11_26 (v := .ref (ad 392)) (fvl_o (n := 6) rfl) dX11_isWayHere_40 ?_
    refine lv_iconst (v := 1) E.1 E.2.1 dX11_isWayHere_43 (by decide) ?_
    refine t_iald E G 50 (rfl : ro 392 = 50) (by decide) (by decide) rfl (n := 96) rfl (by unfold vp_in; decide) dX11_isWayHere_44 ?_
    refine m_ci v10 h48 ?_
    refine lv_iconst (v := 1) E.1 E.2.1 dX11_isWayHere_45 (by decide) ?_
    refine lv_isub E.1 E.2.1 dX11_isWayHere_46 ?_
    refine lv_topi (fun v52 e53 => ?_)
    have b54 : iv (-1) 7 v52 := by rw [e53]; exact iv_sub b12 (iv_lit (lo := 1) (hi := 1) 1 (by decide) (by decide)) (by decide) (by decide) (by decide) (by decide)
    have l55 : v52.toInt = (-1) + 1 * v10.toInt := (show v52.toInt = v10.toInt - 1 by rw [e53]; exact ti_subc 1 (by decide) b12 (by decide) (by decide)).trans (by omega)
    refine t_vi E G hl (v_numberHere l D K ad zz35 oo38 (0 : Int32) v52 h47.1) 11 (rfl : ro 386 = 11) (by decide) rfl rfl 2 rfl mw_code_X11_numberHere mw_ini_11 mw_ml_11_168 mw_inst_X11_numberHere mw_sel_X11_numberHere hd_X11_numberHere ⟨Nat.le_trans (by decide) hfr, Nat.le_trans (by decide) hlo⟩ rfl rfl rfl (Nat.le_of_ble_eq_true rfl) dX11_isWayHere_47 (fun r57 zz56 H locs hp58 G => ?_)
    obtain ⟨oo59, kk60, b61, h62, h63⟩ := hp58
    have kk64 : KTn z zz56 := KF.tr kk45 (KZ.t kk60)
    have h65 := Scx.tr h47 h62
    have h66 : tA zz56 392 (1 : Int32).toNatClampNeg = v10 := by rw [(kk60.2.1 392 rfl).1]; exact h48
    refine lv_if_ne (tgt := 55) E.1 E.2.1 dX11_isWayHere_50 (by decide) (fun c67 => ?_) (fun c67 => ?_)
    · skip
      have b68 : iv 1 1 r57 := ne_lo c67 b61 (by decide) (by decide)
      have h69 := h63 c67
      refine lv_iload_n E.1 E.2.1 dX11_isWayHere_55 rfl (lv_at hl 1 rfl) ?_
      refine lv_aload_n E.1 E.2.1 dX11_isWayHere_56 rfl (lv_at hl 2 rfl) ?_
      refine t_get E G 11 10 (rfl : ro 386 = 11) (C := RX11) (T := TX11) (N := 37) rfl (by decide) (by decide) (by decide) mw_fl_11_118 (fvl_i rfl) dX11_isWayHere_57 ?_
      refine lv_topi (fun v70 e71 => ?_)
      have b72 : iv 0 99999 v70 := by rw [e71]; exact oo59.i 11 10 (rfl : ro 386 = 11)
      have b73 : iv 0 7 v70 := ⟨by have e := congrArg Int32.toInt e71; have := h69.2.1; have := (iv_lit (lo := 0) (hi := 0) 0 (by decide) (by decide)).1; omega, by have e := congrArg Int32.toInt e71; have := h69.2.2; have := b54.2; omega⟩
      refine lv_icmp_ne (tgt := 70) E.1 E.2.1 dX11_isWayHere_60 (by decide) (fun c74 => ?_) (fun c74 => ?_)
      · skip
        refine lv_aload_n E.1 E.2.1 dX11_isWayHere_70 rfl (lv_at hl 2 rfl) ?_
        refine t_get E G 11 7 (rfl : ro 386 = 11) (C := RX11) (T := TX11) (N := 37) rfl (by decide) (by decide) (by decide) mw_fl_11_26 (v := .ref (ad 392)) (fvl_o (n := 6) rfl) dX11_isWayHere_71 ?_
        refine lv_bipush (v := 88) E.1 E.2.1 dX11_isWayHere_74 (by decide) ?_
        refine lv_iload_n E.1 E.2.1 dX11_isWayHere_76 rfl (lv_at hl 1 rfl) ?_
        refine lv_iadd E.1 E.2.1 dX11_isWayHere_77 ?_
        refine lv_topi (fun v75 e76 => ?_)
        have b77 : iv 88 95 v75 := by rw [e76]; exact iv_add (iv_lit (lo := 88) (hi := 88) 88 (by decide) (by decide)) b34 (by decide) (by decide) (by decide) (by decide)
        have l78 : v75.toInt = 88 + 1 * v31.toInt := (show v75.toInt = 88 + v31.toInt by rw [e76]; exact ti_cadd 88 (by decide) b34 (by decide) (by decide)).trans (by omega)
        refine t_iald E G 50 (rfl : ro 392 = 50) (by decide) (by decide) rfl (n := 96) rfl (iv_vp b77 (by decide) (by decide)) dX11_isWayHere_78 ?_
        refine lv_topi (fun v79 e80 => ?_)
        refine lv_aload_n E.1 E.2.1 dX11_isWayHere_79 rfl (lv_at hl 2 rfl) ?_
        refine t_get E G 11 10 (rfl : ro 386 = 11) (C := RX11) (T := TX11) (N := 37) rfl (by decide) (by decide) (by decide) mw_fl_11_118 (fvl_i rfl) dX11_isWayHere_80 ?_
        refine m_ci v70 e71.symm ?_
        refine lv_ishr E.1 E.2.1 dX11_isWayHere_83 ?_
        refine lv_topi (fun v81 e82 => ?_)
        refine lv_iconst (v := 1) E.1 E.2.1 dX11_isWayHere_84 (by decide) ?_
        refine lv_iand E.1 E.2.1 dX11_isWayHere_85 ?_
        refine lv_topi (fun v83 e84 => ?_)
        have b85 : iv 0 1 v83 := by rw [e84]; exact iv_and (iv_lit (lo := 1) (hi := 1) 1 (by decide) (by decide)) (by decide)
        refine lv_if_ne (tgt := 99) E.1 E.2.1 dX11_isWayHere_86 (by decide) (fun c86 => ?_) (fun c86 => ?_)
        · skip
          have b87 : iv 1 1 v83 := ne_lo c86 b85 (by decide) (by decide)
          refine lv_aload_n E.1 E.2.1 dX11_isWayHere_99 rfl (lv_at hl 2 rfl) ?_
          refine t_get E G 11 7 (rfl : ro 386 = 11) (C := RX11) (T := TX11) (N := 37) rfl (by decide) (by decide) (by decide) mw_fl_11_26 (v := .ref (ad 392)) (fvl_o (n := 6) rfl) dX11_isWayHere_100 ?_
          refine lv_bipush (v := 88) E.1 E.2.1 dX11_isWayHere_103 (by decide) ?_
          refine lv_iload_n E.1 E.2.1 dX11_isWayHere_105 rfl (lv_at hl 1 rfl) ?_
          refine lv_iadd E.1 E.2.1 dX11_isWayHere_106 ?_
          refine lv_topi (fun v88 e89 => ?_)
          have b90 : iv 88 95 v88 := by rw [e89]; exact iv_add (iv_lit (lo := 88) (hi := 88) 88 (by decide) (by decide)) b34 (by decide) (by decide) (by decide) (by decide)
          have l91 : v88.toInt = 88 + 1 * v31.toInt := (show v88.toInt = 88 + v31.toInt by rw [e89]; exact ti_cadd 88 (by decide) b34 (by decide) (by decide)).trans (by omega)
          refine lv_dup2_11 E.1 E.2.1 dX11_isWayHere_107 rfl rfl ?_
          refine t_iald E G 50 (rfl : ro 392 = 50) (by decide) (by decide) rfl (n := 96) rfl (iv_vp b90 (by decide) (by decide)) dX11_isWayHere_108 ?_
          refine m_ci v79 (by rw [show v88 = v75 from Int32.toInt_inj.mp (by rw [l91, l78])]; exact e80.symm) ?_
          refine lv_iconst (v := 1) E.1 E.2.1 dX11_isWayHere_109 (by decide) ?_
          refine lv_aload_n E.1 E.2.1 dX11_isWayHere_110 rfl (lv_at hl 2 rfl) ?_
          refine t_get E G 11 10 (rfl : ro 386 = 11) (C := RX11) (T := TX11) (N := 37) rfl (by decide) (by decide) (by decide) mw_fl_11_118 (fvl_i rfl) dX11_isWayHere_111 ?_
          refine m_ci v70 e71.symm ?_
          refine lv_ishl E.1 E.2.1 dX11_isWayHere_114 ?_
          refine lv_topi (fun v92 e93 => ?_)
          have b94 : iv 1 256 v92 := by rw [e93]; exact iv_shl8 (iv_mono b73 (by decide) (by decide))
          refine lv_ior E.1 E.2.1 dX11_isWayHere_115 ?_
          refine lv_topi (fun v95 e96 => ?_)
          refine t_iast E G 50 (rfl : ro 392 = 50) (by decide) (by decide) rfl (n := 96) rfl (iv_vp b90 (by decide) (by decide)) dX11_isWayHere_116 (fun H locs G => ?_)
          obtain ⟨zz99, G, oo100, kk101, h102, h97, h98⟩ : ∃ u : TS, mG D A s H locs (wd K ad u) ∧ Ok u ∧ KTn z u ∧ tI u 386 10 = v70 ∧ (tA u 392 (1 : Int32).toNatClampNeg = v10) ∧ (Scx z u) := ⟨_, G, ok_u oo59 50 (rfl : ro 392 = 50) (wr1 88 1 0 7 (iv_full v95) b34 (l91.trans (by omega)) (by decide +kernel)) (by decide), KF.tr kk64 (KF_r 50 (rfl : ro 392 = 50) (by decide)), e71.symm, (sR_n h66 (cl_ne b90 1 (by decide))), h65⟩
          refine lv_aload_n E.1 E.2.1 dX11_isWayHere_117 rfl (lv_at hl 2 rfl) ?_
          refine t_get E G 11 7 (rfl : ro 386 = 11) (C := RX11) (T := TX11) (N := 37) rfl (by decide) (by decide) (by decide) mw_fl_11_26 (v := .ref (ad 392)) (fvl_o (n := 6) rfl) dX11_isWayHere_118 ?_
          refine lv_bipush (v := 88) E.1 E.2.1 dX11_isWayHere_121 (by decide) ?_
          refine lv_aload_n E.1 E.2.1 dX11_isWayHere_123 rfl (lv_at hl 2 rfl) ?_
          refine t_get E G 11 10 (rfl : ro 386 = 11) (C := RX11) (T := TX11) (N := 37) rfl (by decide) (by decide) (by decide) mw_fl_11_118 (fvl_i rfl) dX11_isWayHere_124 ?_
          refine m_ci v70 h102 ?_
          refine lv_iadd E.1 E.2.1 dX11_isWayHere_127 ?_
          refine lv_topi (fun v103 e104 => ?_)
          have b105 : iv 88 95 v103 := by rw [e104]; exact iv_add (iv_lit (lo := 88) (hi := 88) 88 (by decide) (by decide)) b73 (by decide) (by decide) (by decide) (by decide)
          have l106 : v103.toInt = 88 + 1 * v70.toInt := (show v103.toInt = 88 + v70.toInt by rw [e104]; exact ti_cadd 88 (by decide) b73 (by decide) (by decide)).trans (by omega)
          refine lv_dup2_11 E.1 E.2.1 dX11_isWayHere_128 rfl rfl ?_
          refine t_iald E G 50 (rfl : ro 392 = 50) (by decide) (by decide) rfl (n := 96) rfl (iv_vp b105 (by decide) (by decide)) dX11_isWayHere_129 ?_
          refine lv_topi (fun v107 e108 => ?_)
          refine lv_iconst (v := 1) E.1 E.2.1 dX11_isWayHere_130 (by decide) ?_
          refine lv_iload_n E.1 E.2.1 dX11_isWayHere_131 rfl (lv_at hl 1 rfl) ?_
          refine lv_ishl E.1 E.2.1 dX11_isWayHere_132 ?_
          refine lv_topi (fun v109 e110 => ?_)
          have b111 : iv 1 256 v109 := by rw [e110]; exact iv_shl8 (iv_mono b34 (by decide) (by decide))
          refine lv_ior E.1 E.2.1 dX11_isWayHere_133 ?_
          refine lv_topi (fun v112 e113 => ?_)
          refine t_iast E G 50 (rfl : ro 392 = 50) (by decide) (by decide) rfl (n := 96) rfl (iv_vp b105 (by decide) (by decide)) dX11_isWayHere_134 (fun H locs G => ?_)
          obtain ⟨zz116, G, oo117, kk118, h119, h114, h115⟩ : ∃ u : TS, mG D A s H locs (wd K ad u) ∧ Ok u ∧ KTn z u ∧ tI u 386 10 = v70 ∧ (tA u 392 (1 : Int32).toNatClampNeg = v10) ∧ (Scx z u) := ⟨_, G, ok_u oo100 50 (rfl : ro 392 = 50) (wr1 88 1 0 7 (iv_full v112) b73 (l106.trans (by omega)) (by decide +kernel)) (by decide), KF.tr kk101 (KF_r 50 (rfl : ro 392 = 50) (by decide)), h102, (sR_n h97 (cl_ne b105 1 (by decide))), h98⟩
          refine lv_iconst (v := 1) E.1 E.2.1 dX11_isWayHere_135 (by decide) ?_
          exact RET G ⟨oo117, kk118, (iv_mono (iv_lit (lo := 1) (hi := 1) 1 (by decide) (by decide)) (by decide) (by decide)), h115⟩ (by decide) dX11_isWayHere_136
        · skip
          have b120 : iv 0 0 v83 := iv_eq c86 (iv_lit (lo := 0) (hi := 0) 0 (by decide) (by decide))
          refine lv_aload_n E.1 E.2.1 dX11_isWayHere_89 rfl (lv_at hl 2 rfl) ?_
          refine t_get E G 11 7 (rfl : ro 386 = 11) (C := RX11) (T := TX11) (N := 37) rfl (by decide) (by decide) (by decide) mw_fl_11_26 (v := .ref (ad 392)) (fvl_o (n := 6) rfl) dX11_isWayHere_90 ?_
          refine lv_iconst (v := 2) E.1 E.2.1 dX11_isWayHere_93 (by decide) ?_
          refine lv_dup2_11 E.1 E.2.1 dX11_isWayHere_94 rfl rfl ?_
          refine t_iald E G 50 (rfl : ro 392 = 50) (by decide) (by decide) rfl (n := 96) rfl (by unfold vp_in; decide) dX11_isWayHere_95 ?_
          refine lv_topi (fun v121 e122 => ?_)
          refine lv_iconst (v := 1) E.1 E.2.1 dX11_isWayHere_96 (by decide) ?_
          refine lv_iadd E.1 E.2.1 dX11_isWayHere_97 ?_
          refine lv_topi (fun v123 e124 => ?_)
          refine t_iast E G 50 (rfl : ro 392 = 50) (by decide) (by decide) rfl (n := 96) rfl (by unfold vp_in; decide) dX11_isWayHere_98 (fun H locs G => ?_)
          obtain ⟨zz127, G, oo128, kk129, h130, h125, h126⟩ : ∃ u : TS, mG D A s H locs (wd K ad u) ∧ Ok u ∧ KTn z u ∧ tI u 386 10 = v70 ∧ (tA u 392 (1 : Int32).toNatClampNeg = v10) ∧ (Scx z u) := ⟨_, G, ok_u oo59 50 (rfl : ro 392 = 50) (iv_mono (iv_full v123) (by decide +kernel) (by decide +kernel)) (by decide), KF.tr kk64 (KF_r 50 (rfl : ro 392 = 50) (by decide)), e71.symm, (sR_n h66 (cl_ne (iv_lit (lo := 2) (hi := 2) 2 (by decide) (by decide)) 1 (by decide))), h65⟩
          refine lv_aload_n E.1 E.2.1 dX11_isWayHere_99 rfl (lv_at hl 2 rfl) ?_
          refine t_get E G 11 7 (rfl : ro 386 = 11) (C := RX11) (T := TX11) (N := 37) rfl (by decide) (by decide) (by decide) mw_fl_11_26 (v := .ref (ad 392)) (fvl_o (n := 6) rfl) dX11_isWayHere_100 ?_
          refine lv_bipush (v := 88) E.1 E.2.1 dX11_isWayHere_103 (by decide) ?_
          refine lv_iload_n E.1 E.2.1 dX11_isWayHere_105 rfl (lv_at hl 1 rfl) ?_
          refine lv_iadd E.1 E.2.1 dX11_isWayHere_106 ?_
          refine lv_topi (fun v131 e132 => ?_)
          have b133 : iv 88 95 v131 := by rw [e132]; exact iv_add (iv_lit (lo := 88) (hi := 88) 88 (by decide) (by decide)) b34 (by decide) (by decide) (by decide) (by decide)
          have l134 : v131.toInt = 88 + 1 * v31.toInt := (show v131.toInt = 88 + v31.toInt by rw [e132]; exact ti_cadd 88 (by decide) b34 (by decide) (by decide)).trans (by omega)
          refine lv_dup2_11 E.1 E.2.1 dX11_isWayHere_107 rfl rfl ?_
          refine t_iald E G 50 (rfl : ro 392 = 50) (by decide) (by decide) rfl (n := 96) rfl (iv_vp b133 (by decide) (by decide)) dX11_isWayHere_108 ?_
          refine lv_topi (fun v135 e136 => ?_)
          refine lv_iconst (v := 1) E.1 E.2.1 dX11_isWayHere_109 (by decide) ?_
          refine lv_aload_n E.1 E.2.1 dX11_isWayHere_110 rfl (lv_at hl 2 rfl) ?_
          refine t_get E G 11 10 (rfl : ro 386 = 11) (C := RX11) (T := TX11) (N := 37) rfl (by decide) (by decide) (by decide) mw_fl_11_118 (fvl_i rfl) dX11_isWayHere_111 ?_
          refine m_ci v70 h130 ?_
          refine lv_ishl E.1 E.2.1 dX11_isWayHere_114 ?_
          refine lv_topi (fun v137 e138 => ?_)
          have b139 : iv 1 256 v137 := by rw [e138]; exact iv_shl8 (iv_mono b73 (by decide) (by decide))
          refine lv_ior E.1 E.2.1 dX11_isWayHere_115 ?_
          refine lv_topi (fun v140 e141 => ?_)
          refine t_iast E G 50 (rfl : ro 392 = 50) (by decide) (by decide) rfl (n := 96) rfl (iv_vp b133 (by decide) (by decide)) dX11_isWayHere_116 (fun H locs G => ?_)
          obtain ⟨zz144, G, oo145, kk146, h147, h142, h143⟩ : ∃ u : TS, mG D A s H locs (wd K ad u) ∧ Ok u ∧ KTn z u ∧ tI u 386 10 = v70 ∧ (tA u 392 (1 : Int32).toNatClampNeg = v10) ∧ (Scx z u) := ⟨_, G, ok_u oo128 50 (rfl : ro 392 = 50) (wr1 88 1 0 7 (iv_full v140) b34 (l134.trans (by omega)) (by decide +kernel)) (by decide), KF.tr kk129 (KF_r 50 (rfl : ro 392 = 50) (by decide)), h130, (sR_n h125 (cl_ne b133 1 (by decide))), h126⟩
          refine lv_aload_n E.1 E.2.1 dX11_isWayHere_117 rfl (lv_at hl 2 rfl) ?_
          refine t_get E G 11 7 (rfl : ro 386 = 11) (C := RX11) (T := TX11) (N := 37) rfl (by decide) (by decide) (by decide) mw_fl_11_26 (v := .ref (ad 392)) (fvl_o (n := 6) rfl) dX11_isWayHere_118 ?_
          refine lv_bipush (v := 88) E.1 E.2.1 dX11_isWayHere_121 (by decide) ?_
          refine lv_aload_n E.1 E.2.1 dX11_isWayHere_123 rfl (lv_at hl 2 rfl) ?_
          refine t_get E G 11 10 (rfl : ro 386 = 11) (C := RX11) (T := TX11) (N := 37) rfl (by decide) (by decide) (by decide) mw_fl_11_118 (fvl_i rfl) dX11_isWayHere_124 ?_
          refine m_ci v70 h147 ?_
          refine lv_iadd E.1 E.2.1 dX11_isWayHere_127 ?_
          refine lv_topi (fun v148 e149 => ?_)
          have b150 : iv 88 95 v148 := by rw [e149]; exact iv_add (iv_lit (lo := 88) (hi := 88) 88 (by decide) (by decide)) b73 (by decide) (by decide) (by decide) (by decide)
          have l151 : v148.toInt = 88 + 1 * v70.toInt := (show v148.toInt = 88 + v70.toInt by rw [e149]; exact ti_cadd 88 (by decide) b73 (by decide) (by decide)).trans (by omega)
          refine lv_dup2_11 E.1 E.2.1 dX11_isWayHere_128 rfl rfl ?_
          refine t_iald E G 50 (rfl : ro 392 = 50) (by decide) (by decide) rfl (n := 96) rfl (iv_vp b150 (by decide) (by decide)) dX11_isWayHere_129 ?_
          refine lv_topi (fun v152 e153 => ?_)
          refine lv_iconst (v := 1) E.1 E.2.1 dX11_isWayHere_130 (by decide) ?_
          refine lv_iload_n E.1 E.2.1 dX11_isWayHere_131 rfl (lv_at hl 1 rfl) ?_
          refine lv_ishl E.1 E.2.1 dX11_isWayHere_132 ?_
          refine lv_topi (fun v154 e155 => ?_)
          have b156 : iv 1 256 v154 := by rw [e155]; exact iv_shl8 (iv_mono b34 (by decide) (by decide))
          refine lv_ior E.1 E.2.1 dX11_isWayHere_133 ?_
          refine lv_topi (fun v157 e158 => ?_)
          refine t_iast E G 50 (rfl : ro 392 = 50) (by decide) (by decide) rfl (n := 96) rfl (iv_vp b150 (by decide) (by decide)) dX11_isWayHere_134 (fun H locs G => ?_)
          obtain ⟨zz161, G, oo162, kk163, h164, h159, h160⟩ : ∃ u : TS, mG D A s H locs (wd K ad u) ∧ Ok u ∧ KTn z u ∧ tI u 386 10 = v70 ∧ (tA u 392 (1 : Int32).toNatClampNeg = v10) ∧ (Scx z u) := ⟨_, G, ok_u oo145 50 (rfl : ro 392 = 50) (wr1 88 1 0 7 (iv_full v157) b73 (l151.trans (by omega)) (by decide +kernel)) (by decide), KF.tr kk146 (KF_r 50 (rfl : ro 392 = 50) (by decide)), h147, (sR_n h142 (cl_ne b150 1 (by decide))), h143⟩
          refine lv_iconst (v := 1) E.1 E.2.1 dX11_isWayHere_135 (by decide) ?_
          exact RET G ⟨oo162, kk163, (iv_mono (iv_lit (lo := 1) (hi := 1) 1 (by decide) (by decide)) (by decide) (by decide)), h160⟩ (by decide) dX11_isWayHere_136
      · skip
        refine lv_aload_n E.1 E.2.1 dX11_isWayHere_63 rfl (lv_at hl 2 rfl) ?_
        refine lv_iconst (v := 1) E.1 E.2.1 dX11_isWayHere_64 (by decide) ?_
        refine lv_iload_n E.1 E.2.1 dX11_isWayHere_65 rfl (lv_at hl 0 rfl) ?_
        refine t_vi E G hl (v_fails l D K ad zz56 oo59 (1 : Int32) v49) 11 (rfl : ro 386 = 11) (by decide) rfl rfl 2 rfl mw_code_X11_fails mw_ini_11 mw_ml_11_114 mw_inst_X11_fails mw_sel_X11_fails hd_X11_fails ⟨Nat.le_trans (by decide) hfr, Nat.le_trans (by decide) hlo⟩ rfl rfl rfl (Nat.le_of_ble_eq_true rfl) dX11_isWayHere_66 (fun r166 zz165 H locs hp167 G => ?_)
        obtain ⟨oo168, kk169, b170⟩ := hp167
        have kk171 : KTn z zz165 := KF.tr kk64 (KA9.t kk169)
        have h172 : tI zz165 386 10 = v70 := KF.i kk169 11 (rfl : ro 386 = 11) (by decide) e71.symm
        have h173 := Scx.tr h65 (Scx.k h65.1 kk169 rfl rfl)
        have h174 : tA zz165 392 (1 : Int32).toNatClampNeg = v10 := by rw [(kk169.2.1 392 rfl).1]; exact h66
        exact RET G ⟨oo168, kk171, (iv_mono b170 (by decide) (by decide)), h173⟩ (nar_b b170) dX11_isWayHere_69
    · skip
      have b175 : iv 0 0 r57 := iv_eq c67 (iv_lit (lo := 0) (hi := 0) 0 (by decide) (by decide))
      refine lv_iconst (v := 0) E.1 E.2.1 dX11_isWayHere_53 (by decide) ?_
      exact RET G ⟨oo59, kk64, (iv_mono (iv_lit (lo := 0) (hi := 0) 0 (by decide) (by decide)) (by decide) (by decide)), h65⟩ (by decide) dX11_isWayHere_54
  · skip
    have b176 : iv 0 0 r18 := iv_eq c28 (iv_lit (lo := 0) (hi := 0) 0 (by decide) (by decide))
    refine lv_iconst (v := 0) E.1 E.2.1 dX11_isWayHere_20 (by decide) ?_
    exact RET G ⟨oo20, kk25, (iv_mono (iv_lit (lo := 0) (hi := 0) 0 (by decide) (by decide)) (by decide) (by decide)), h26⟩ (by decide) dX11_isWayHere_21
set_option maxHeartbeats 4000000 in
set_option maxRecDepth 100000 in
theorem v_isLureHere (l : Launch) (D : va_G) (K : Nat → ClassId) (ad : Nat → Nat) (z : TS) (o : Ok z) (x1 : Int32) (hn : NXx z) : cI l yX11_isLureHere cX11_isLureHere 3 .boolean ({ frames := 3, cells := 0, slots := 0, locals := 72 }) D K ad z [.ref (ad 386), .int x1] (fun r u => Ok u ∧ KTn z u ∧ iv 0 1 r ∧ (Scx z u)) := by
  have sc0 : Scx z z := Scx.rf hn
  refine t_enterI (by decide) (Nat.le_of_ble_eq_true rfl) rfl rfl ?_
  intro p e s m args below meth c A R Q H locs ls E hfr hlo RET G hl
  have E : mE p s m meth c cX11_isLureHere args 3 RX11 D K A := E
  have hl : lv_has ls 3 [(0, .ref (ad 386)), (1, .int x1)] := hl
  refine lv_aload_n E.1 E.2.1 dX11_isLureHere_0 rfl (lv_at hl 0 rfl) ?_
  refine t_get E G 11 7 (rfl : ro 386 = 11) (C := RX11) (T := TX11) (N := 37) rfl (by decide) (by decide) (by decide) mw_fl_11_26 (v := .ref (ad 392)) (fvl_o (n := 6) rfl) dX11_isLureHere_1 ?_
  refine lv_iconst (v := 3) E.1 E.2.1 dX11_isLureHere_4 (by decide) ?_
  refine t_iald E G 50 (rfl : ro 392 = 50) (by decide) (by decide) rfl (n := 96) rfl (by unfold vp_in; decide) dX11_isLureHere_5 ?_
  refine lv_topi (fun v1 e2 => ?_)
  have b3 : iv 0 6 v1 := by rw [e2]; exact iv_mono (o.a 50 (rfl : ro 392 = 50) _) (by decide +kernel) (by decide +kernel)
  refine lv_bipush (v := 6) E.1 E.2.1 dX11_isLureHere_6 (by decide) ?_
  refine lv_icmp_ne (tgt := 18) E.1 E.2.1 dX11_isLureHere_8 (by decide) (fun c4 => ?_) (fun c4 => ?_)
  · skip
    have b5 : iv 0 5 v1 := ne_hi c4 b3 (by decide) (by decide)
    refine lv_aload_n E.1 E.2.1 dX11_isLureHere_18 rfl (lv_at hl 0 rfl) ?_
    refine t_vv E G hl (v_passWord l D K ad z o sc0.1) 11 (rfl : ro 386 = 11) (by decide) rfl rfl 0 rfl mw_code_X11_passWord mw_ini_11 mw_ml_11_108 mw_inst_X11_passWord mw_sel_X11_passWord hd_X11_passWord ⟨Nat.le_trans (by decide) hfr, Nat.le_trans (by decide) hlo⟩ rfl rfl rfl (Nat.le_of_ble_eq_true rfl) dX11_isLureHere_19 (fun zz6 H locs hp8 G => ?_)
    obtain ⟨oo9, kk10, h11, h12⟩ := hp8
    have kk13 : KTn z zz6 := KF.tr KF.rf (KN8.t kk10)
    have h14 := Scx.tr sc0 h11
    have h15 : tA zz6 392 (3 : Int32).toNatClampNeg = v1 := by rw [(kk10.2.1 392 rfl).1]; exact e2.symm
    refine lv_aload_n E.1 E.2.1 dX11_isLureHere_22 rfl (lv_at hl 0 rfl) ?_
    refine t_get E G 11 7 (rfl : ro 386 = 11) (C := RX11) (T := TX11) (N := 37) rfl (by decide) (by decide) (by decide) mw_fl_11_26 (v := .ref (ad 392)) (fvl_o (n := 6) rfl) dX11_isLureHere_23 ?_
    refine lv_iconst (v := 3) E.1 E.2.1 dX11_isLureHere_26 (by decide) ?_
    refine t_iald E G 50 (rfl : ro 392 = 50) (by decide) (by decide) rfl (n := 96) rfl (by unfold vp_in; decide) dX11_isLureHere_27 ?_
    refine m_ci v1 h15 ?_
    refine lv_istore_n (lv' := [(2, .int v1), (0, .ref (ad 386)), (1, .int x1)]) E.1 E.2.1 dX11_isLureHere_28 rfl hl (by decide) rfl (fun ls hl => ?_)
    refine lv_aload_n E.1 E.2.1 dX11_isLureHere_29 rfl (lv_at hl 1 rfl) ?_
    refine lv_bipush (v := 66) E.1 E.2.1 dX11_isLureHere_30 (by decide) ?_
    refine lv_iconst (v := 2) E.1 E.2.1 dX11_isLureHere_32 (by decide) ?_
    refine lv_iload_n E.1 E.2.1 dX11_isLureHere_33 rfl (lv_at hl 0 rfl) ?_
    refine lv_imul E.1 E.2.1 dX11_isLureHere_34 ?_
    refine lv_topi (fun v16 e17 => ?_)
    have b18 : iv 0 10 v16 := by rw [e17]; exact iv_mulc' b5 2 (by decide) (by decide) (by decide) (by decide) (by decide) (by decide)
    have l19 : v16.toInt = 0 + 2 * v1.toInt := (show v16.toInt = 2 * v1.toInt by rw [e17]; exact ti_cmul 2 (by decide) (by decide) b5 (by decide) (by decide)).trans (by omega)
    refine lv_iadd E.1 E.2.1 dX11_isLureHere_35 ?_
    refine lv_topi (fun v20 e21 => ?_)
    have b22 : iv 66 76 v20 := by rw [e21]; exact iv_add (iv_lit (lo := 66) (hi := 66) 66 (by decide) (by decide)) b18 (by decide) (by decide) (by decide) (by decide)
    have l23 : v20.toInt = 66 + 2 * v1.toInt := (show v20.toInt = 66 + v16.toInt by rw [e21]; exact ti_cadd 66 (by decide) b18 (by decide) (by decide)).trans (by omega)
    refine lv_iconst (v := 0) E.1 E.2.1 dX11_isLureHere_36 (by decide) ?_
    refine lv_aload_n E.1 E.2.1 dX11_isLureHere_37 rfl (lv_at hl 1 rfl) ?_
    refine t_get E G 11 7 (rfl : ro 386 = 11) (C := RX11) (T := TX11) (N := 37) rfl (by decide) (by decide) (by decide) mw_fl_11_26 (v := .ref (ad 392)) (fvl_o (n := 6) rfl) dX11_isLureHere_38 ?_
    refine lv_iconst (v := 1) E.1 E.2.1 dX11_isLureHere_41 (by decide) ?_
    refine t_iald E G 50 (rfl : ro 392 = 50) (by decide) (by decide) rfl (n := 96) rfl (by unfold vp_in; decide) dX11_isLureHere_42 ?_
    refine lv_topi (fun v24 e25 => ?_)
    have b26 : iv 0 8 v24 := by rw [e25]; exact iv_mono (oo9.a 50 (rfl : ro 392 = 50) _) (by decide +kernel) (by decide +kernel)
    refine lv_iconst (v := 1) E.1 E.2.1 dX11_isLureHere_43 (by decide) ?_
    refine lv_isub E.1 E.2.1 dX11_isLureHere_44 ?_
    refine lv_topi (fun v27 e28 => ?_)
    have b29 : iv (-1) 7 v27 := by rw [e28]; exact iv_sub b26 (iv_lit (lo := 1) (hi := 1) 1 (by decide) (by decide)) (by decide) (by decide) (by decide) (by decide)
    have l30 : v27.toInt = (-1) + 1 * v24.toInt := (show v27.toInt = v24.toInt - 1 by rw [e28]; exact ti_subc 1 (by decide) b26 (by decide) (by decide)).trans (by omega)
    refine t_vi E G hl (v_cellHere l D K ad zz6 oo9 v20 (iv_mono b22 (by decide) (by decide)) (0 : Int32) v27 h14.1 (fun v p q => (wr1 66 2 0 5 (show iv 0 7 v from ⟨by have := (iv_lit (lo := 0) (hi := 0) 0 (by decide) (by decide)).1; omega, by have := b29.2; omega⟩) b5 (l23.trans (by omega)) (by decide +kernel)))) 11 (rfl : ro 386 = 11) (by decide) rfl rfl 3 rfl mw_code_X11_cellHere mw_ini_11 mw_ml_11_219 mw_inst_X11_cellHere mw_sel_X11_cellHere hd_X11_cellHere ⟨Nat.le_trans (by decide) hfr, Nat.le_trans (by decide) hlo⟩ rfl rfl rfl (Nat.le_of_ble_eq_true rfl) dX11_isLureHere_45 (fun r32 zz31 H locs hp33 G => ?_)
    obtain ⟨oo34, kk35, b36, h37, h38⟩ := hp33
    have kk39 : KTn z zz31 := KF.tr kk13 kk35
    have h40 := Scx.tr h14 h37
    have h41 : tA zz31 392 (3 : Int32).toNatClampNeg = v1 := (h38 _ (cl_ne b22 3 (by decide))).trans h15
    have h42 : tA zz31 392 (1 : Int32).toNatClampNeg = v24 := (h38 _ (cl_ne b22 1 (by decide))).trans e25.symm
    refine lv_if_eq (tgt := 69) E.1 E.2.1 dX11_isLureHere_48 (by decide) (fun c43 => ?_) (fun c43 => ?_)
    · skip
      have b44 : iv 0 0 r32 := iv_eq c43 (iv_lit (lo := 0) (hi := 0) 0 (by decide) (by decide))
      refine lv_iconst (v := 0) E.1 E.2.1 dX11_isLureHere_69 (by decide) ?_
      exact RET G ⟨oo34, kk39, (iv_mono (iv_lit (lo := 0) (hi := 0) 0 (by decide) (by decide)) (by decide) (by decide)), h40⟩ (by decide) dX11_isLureHere_70
    · skip
      have b45 : iv 1 1 r32 := ne_lo c43 b36 (by decide) (by decide)
      refine lv_aload_n E.1 E.2.1 dX11_isLureHere_51 rfl (lv_at hl 1 rfl) ?_
      refine lv_bipush (v := 66) E.1 E.2.1 dX11_isLureHere_52 (by decide) ?_
      refine lv_iconst (v := 2) E.1 E.2.1 dX11_isLureHere_54 (by decide) ?_
      refine lv_iload_n E.1 E.2.1 dX11_isLureHere_55 rfl (lv_at hl 0 rfl) ?_
      refine lv_imul E.1 E.2.1 dX11_isLureHere_56 ?_
      refine lv_topi (fun v46 e47 => ?_)
      have b48 : iv 0 10 v46 := by rw [e47]; exact iv_mulc' b5 2 (by decide) (by decide) (by decide) (by decide) (by decide) (by decide)
      have l49 : v46.toInt = 0 + 2 * v1.toInt := (show v46.toInt = 2 * v1.toInt by rw [e47]; exact ti_cmul 2 (by decide) (by decide) b5 (by decide) (by decide)).trans (by omega)
      refine lv_iadd E.1 E.2.1 dX11_isLureHere_57 ?_
      refine lv_topi (fun v50 e51 => ?_)
      have b52 : iv 66 76 v50 := by rw [e51]; exact iv_add (iv_lit (lo := 66) (hi := 66) 66 (by decide) (by decide)) b48 (by decide) (by decide) (by decide) (by decide)
      have l53 : v50.toInt = 66 + 2 * v1.toInt := (show v50.toInt = 66 + v46.toInt by rw [e51]; exact ti_cadd 66 (by decide) b48 (by decide) (by decide)).trans (by omega)
      refine lv_iconst (v := 1) E.1 E.2.1 dX11_isLureHere_58 (by decide) ?_
      refine lv_iadd E.1 E.2.1 dX11_isLureHere_59 ?_
      refine lv_topi (fun v54 e55 => ?_)
      have b56 : iv 67 77 v54 := by rw [e55]; exact iv_add b52 (iv_lit (lo := 1) (hi := 1) 1 (by decide) (by decide)) (by decide) (by decide) (by decide) (by decide)
      have l57 : v54.toInt = 67 + 2 * v1.toInt := (show v54.toInt = v50.toInt + 1 by rw [e55]; exact ti_addc 1 (by decide) b52 (by decide) (by decide)).trans (by omega)
      refine lv_iconst (v := 0) E.1 E.2.1 dX11_isLureHere_60 (by decide) ?_
      refine lv_bipush (v := 7) E.1 E.2.1 dX11_isLureHere_61 (by decide) ?_
      refine t_vi E G hl (v_cellHere l D K ad zz31 oo34 v54 (iv_mono b56 (by decide) (by decide)) (0 : Int32) (7 : Int32) h40.1 (fun v p q => (wr1 67 2 0 5 (show iv 0 7 v from ⟨by have := (iv_lit (lo := 0) (hi := 0) 0 (by decide) (by decide)).1; omega, by have := (iv_lit (lo := 7) (hi := 7) 7 (by decide) (by decide)).2; omega⟩) b5 (l57.trans (by omega)) (by decide +kernel)))) 11 (rfl : ro 386 = 11) (by decide) rfl rfl 3 rfl mw_code_X11_cellHere mw_ini_11 mw_ml_11_219 mw_inst_X11_cellHere mw_sel_X11_cellHere hd_X11_cellHere ⟨Nat.le_trans (by decide) hfr, Nat.le_trans (by decide) hlo⟩ rfl rfl rfl (Nat.le_of_ble_eq_true rfl) dX11_isLureHere_63 (fun r59 zz58 H locs hp60 G => ?_)
      obtain ⟨oo61, kk62, b63, h64, h65⟩ := hp60
      have kk66 : KTn z zz58 := KF.tr kk39 kk62
      have h67 := Scx.tr h40 h64
      have h68 : tA zz58 392 (3 : Int32).toNatClampNeg = v1 := (h65 _ (cl_ne b56 3 (by decide))).trans h41
      have h69 : tA zz58 392 (1 : Int32).toNatClampNeg = v24 := (h65 _ (cl_ne b56 1 (by decide))).trans h42
      refine lv_if_ne (tgt := 71) E.1 E.2.1 dX11_isLureHere_66 (by decide) (fun c70 => ?_) (fun c70 => ?_)
      · skip
        have b71 : iv 1 1 r59 := ne_lo c70 b63 (by decide) (by decide)
        refine lv_aload_n E.1 E.2.1 dX11_isLureHere_71 rfl (lv_at hl 1 rfl) ?_
        refine lv_bipush (v := 44) E.1 E.2.1 dX11_isLureHere_72 (by decide) ?_
        refine lv_iload_n E.1 E.2.1 dX11_isLureHere_74 rfl (lv_at hl 0 rfl) ?_
        refine lv_iadd E.1 E.2.1 dX11_isLureHere_75 ?_
        refine lv_topi (fun v72 e73 => ?_)
        have b74 : iv 44 49 v72 := by rw [e73]; exact iv_add (iv_lit (lo := 44) (hi := 44) 44 (by decide) (by decide)) b5 (by decide) (by decide) (by decide) (by decide)
        have l75 : v72.toInt = 44 + 1 * v1.toInt := (show v72.toInt = 44 + v1.toInt by rw [e73]; exact ti_cadd 44 (by decide) b5 (by decide) (by decide)).trans (by omega)
        refine lv_iconst (v := 1) E.1 E.2.1 dX11_isLureHere_76 (by decide) ?_
        refine lv_bipush (v := 9) E.1 E.2.1 dX11_isLureHere_77 (by decide) ?_
        refine t_vi E G hl (v_cellHere l D K ad zz58 oo61 v72 (iv_mono b74 (by decide) (by decide)) (1 : Int32) (9 : Int32) h67.1 (fun v p q => (wr1 44 1 0 5 (show iv 1 9 v from ⟨by have := (iv_lit (lo := 1) (hi := 1) 1 (by decide) (by decide)).1; omega, by have := (iv_lit (lo := 9) (hi := 9) 9 (by decide) (by decide)).2; omega⟩) b5 (l75.trans (by omega)) (by decide +kernel)))) 11 (rfl : ro 386 = 11) (by decide) rfl rfl 3 rfl mw_code_X11_cellHere mw_ini_11 mw_ml_11_219 mw_inst_X11_cellHere mw_sel_X11_cellHere hd_X11_cellHere ⟨Nat.le_trans (by decide) hfr, Nat.le_trans (by decide) hlo⟩ rfl rfl rfl (Nat.le_of_ble_eq_true rfl) dX11_isLureHere_79 (fun r77 zz76 H locs hp78 G => ?_)
        obtain ⟨oo79, kk80, b81, h82, h83⟩ := hp78
        have kk84 : KTn z zz76 := KF.tr kk66 kk80
        have h85 := Scx.tr h67 h82
        have h86 : tA zz76 392 (3 : Int32).toNatClampNeg = v1 := (h83 _ (cl_ne b74 3 (by decide))).trans h68
        have h87 : tA zz76 392 (1 : Int32).toNatClampNeg = v24 := (h83 _ (cl_ne b74 1 (by decide))).trans h69
        refine lv_if_eq (tgt := 99) E.1 E.2.1 dX11_isLureHere_82 (by decide) (fun c88 => ?_) (fun c88 => ?_)
        · skip
          have b89 : iv 0 0 r77 := iv_eq c88 (iv_lit (lo := 0) (hi := 0) 0 (by decide) (by decide))
          refine lv_iconst (v := 0) E.1 E.2.1 dX11_isLureHere_99 (by decide) ?_
          exact RET G ⟨oo79, kk84, (iv_mono (iv_lit (lo := 0) (hi := 0) 0 (by decide) (by decide)) (by decide) (by decide)), h85⟩ (by decide) dX11_isLureHere_100
        · skip
          have b90 : iv 1 1 r77 := ne_lo c88 b81 (by decide) (by decide)
          refine lv_aload_n E.1 E.2.1 dX11_isLureHere_85 rfl (lv_at hl 1 rfl) ?_
          refine lv_bipush (v := 50) E.1 E.2.1 dX11_isLureHere_86 (by decide) ?_
          refine lv_iload_n E.1 E.2.1 dX11_isLureHere_88 rfl (lv_at hl 0 rfl) ?_
          refine lv_iadd E.1 E.2.1 dX11_isLureHere_89 ?_
          refine lv_topi (fun v91 e92 => ?_)
          have b93 : iv 50 55 v91 := by rw [e92]; exact iv_add (iv_lit (lo := 50) (hi := 50) 50 (by decide) (by decide)) b5 (by decide) (by decide) (by decide) (by decide)
          have l94 : v91.toInt = 50 + 1 * v1.toInt := (show v91.toInt = 50 + v1.toInt by rw [e92]; exact ti_cadd 50 (by decide) b5 (by decide) (by decide)).trans (by omega)
          refine lv_iconst (v := 1) E.1 E.2.1 dX11_isLureHere_90 (by decide) ?_
          refine lv_bipush (v := 20) E.1 E.2.1 dX11_isLureHere_91 (by decide) ?_
          refine t_vi E G hl (v_cellHere l D K ad zz76 oo79 v91 (iv_mono b93 (by decide) (by decide)) (1 : Int32) (20 : Int32) h85.1 (fun v p q => (wr1 50 1 0 5 (show iv 1 20 v from ⟨by have := (iv_lit (lo := 1) (hi := 1) 1 (by decide) (by decide)).1; omega, by have := (iv_lit (lo := 20) (hi := 20) 20 (by decide) (by decide)).2; omega⟩) b5 (l94.trans (by omega)) (by decide +kernel)))) 11 (rfl : ro 386 = 11) (by decide) rfl rfl 3 rfl mw_code_X11_cellHere mw_ini_11 mw_ml_11_219 mw_inst_X11_cellHere mw_sel_X11_cellHere hd_X11_cellHere ⟨Nat.le_trans (by decide) hfr, Nat.le_trans (by decide) hlo⟩ rfl rfl rfl (Nat.le_of_ble_eq_true rfl) dX11_isLureHere_93 (fun r96 zz95 H locs hp97 G => ?_)
          obtain ⟨oo98, kk99, b100, h101, h102⟩ := hp97
          have kk103 : KTn z zz95 := KF.tr kk84 kk99
          have h104 := Scx.tr h85 h101
          have h105 : tA zz95 392 (3 : Int32).toNatClampNeg = v1 := (h102 _ (cl_ne b93 3 (by decide))).trans h86
          have h106 : tA zz95 392 (1 : Int32).toNatClampNeg = v24 := (h102 _ (cl_ne b93 1 (by decide))).trans h87
          refine lv_if_ne (tgt := 101) E.1 E.2.1 dX11_isLureHere_96 (by decide) (fun c107 => ?_) (fun c107 => ?_)
          · skip
            have b108 : iv 1 1 r96 := ne_lo c107 b100 (by decide) (by decide)
            refine lv_aload_n E.1 E.2.1 dX11_isLureHere_101 rfl (lv_at hl 1 rfl) ?_
            refine t_get E G 11 7 (rfl : ro 386 = 11) (C := RX11) (T := TX11) (N := 37) rfl (by decide) (by decide) (by decide) mw_fl_11_26 (v := .ref (ad 392)) (fvl_o (n := 6) rfl) dX11_isLureHere_102 ?_
            refine lv_iconst (v := 3) E.1 E.2.1 dX11_isLureHere_105 (by decide) ?_
            refine lv_dup2_11 E.1 E.2.1 dX11_isLureHere_106 rfl rfl ?_
            refine t_iald E G 50 (rfl : ro 392 = 50) (by decide) (by decide) rfl (n := 96) rfl (by unfold vp_in; decide) dX11_isLureHere_107 ?_
            refine m_ci v1 h105 ?_
            refine lv_iconst (v := 1) E.1 E.2.1 dX11_isLureHere_108 (by decide) ?_
            refine lv_iadd E.1 E.2.1 dX11_isLureHere_109 ?_
            refine lv_topi (fun v109 e110 => ?_)
            have b111 : iv 1 6 v109 := by rw [e110]; exact iv_add b5 (iv_lit (lo := 1) (hi := 1) 1 (by decide) (by decide)) (by decide) (by decide) (by decide) (by decide)
            have l112 : v109.toInt = 1 + 1 * v1.toInt := (show v109.toInt = v1.toInt + 1 by rw [e110]; exact ti_addc 1 (by decide) b5 (by decide) (by decide)).trans (by omega)
            refine t_iast E G 50 (rfl : ro 392 = 50) (by decide) (by decide) rfl (n := 96) rfl (by unfold vp_in; decide) dX11_isLureHere_110 (fun H locs G => ?_)
            obtain ⟨zz115, G, oo116, kk117, h113, h114⟩ : ∃ u : TS, mG D A s H locs (wd K ad u) ∧ Ok u ∧ KTn z u ∧ (tA u 392 (1 : Int32).toNatClampNeg = v24) ∧ (Scx z u) := ⟨_, G, ok_u oo98 50 (rfl : ro 392 = 50) (iv_mono b111 (by decide +kernel) (by decide +kernel)) (by decide), KF.tr kk103 (KF_r 50 (rfl : ro 392 = 50) (by decide)), (sR_n h106 (cl_ne (iv_lit (lo := 3) (hi := 3) 3 (by decide) (by decide)) 1 (by decide))), h104⟩
            refine lv_iconst (v := 1) E.1 E.2.1 dX11_isLureHere_111 (by decide) ?_
            exact RET G ⟨oo116, kk117, (iv_mono (iv_lit (lo := 1) (hi := 1) 1 (by decide) (by decide)) (by decide) (by decide)), h114⟩ (by decide) dX11_isLureHere_112
          · skip
            have b118 : iv 0 0 r96 := iv_eq c107 (iv_lit (lo := 0) (hi := 0) 0 (by decide) (by decide))
            refine lv_iconst (v := 0) E.1 E.2.1 dX11_isLureHere_99 (by decide) ?_
            exact RET G ⟨oo98, kk103, (iv_mono (iv_lit (lo := 0) (hi := 0) 0 (by decide) (by decide)) (by decide) (by decide)), h104⟩ (by decide) dX11_isLureHere_100
      · skip
        have b119 : iv 0 0 r59 := iv_eq c70 (iv_lit (lo := 0) (hi := 0) 0 (by decide) (by decide))
        refine lv_iconst (v := 0) E.1 E.2.1 dX11_isLureHere_69 (by decide) ?_
        exact RET G ⟨oo61, kk66, (iv_mono (iv_lit (lo := 0) (hi := 0) 0 (by decide) (by decide)) (by decide) (by decide)), h67⟩ (by decide) dX11_isLureHere_70
  · skip
    have b120 : iv 6 6 v1 := iv_eq c4 (iv_lit (lo := 6) (hi := 6) 6 (by decide) (by decide))
    refine lv_aload_n E.1 E.2.1 dX11_isLureHere_11 rfl (lv_at hl 0 rfl) ?_
    refine lv_iconst (v := 4) E.1 E.2.1 dX11_isLureHere_12 (by decide) ?_
    refine lv_iload_n E.1 E.2.1 dX11_isLureHere_13 rfl (lv_at hl 1 rfl) ?_
    refine t_vi E G hl (v_fails l D K ad z o (4 : Int32) x1) 11 (rfl : ro 386 = 11) (by decide) rfl rfl 2 rfl mw_code_X11_fails mw_ini_11 mw_ml_11_114 mw_inst_X11_fails mw_sel_X11_fails hd_X11_fails ⟨Nat.le_trans (by decide) hfr, Nat.le_trans (by decide) hlo⟩ rfl rfl rfl (Nat.le_of_ble_eq_true rfl) dX11_isLureHere_14 (fun r122 zz121 H locs hp123 G => ?_)
    obtain ⟨oo124, kk125, b126⟩ := hp123
    have kk127 : KTn z zz121 := KF.tr KF.rf (KA9.t kk125)
    have h128 := Scx.tr sc0 (Scx.k sc0.1 kk125 rfl rfl)
    have h129 : tA zz121 392 (3 : Int32).toNatClampNeg = v1 := by rw [(kk125.2.1 392 rfl).1]; exact e2.symm
    exact RET G ⟨oo124, kk127, (iv_mono b126 (by decide) (by decide)), h128⟩ (nar_b b126) dX11_isLureHere_17
set_option maxHeartbeats 4000000 in
set_option maxRecDepth 100000 in
theorem v_isWalkerHere (l : Launch) (D : va_G) (K : Nat → ClassId) (ad : Nat → Nat) (z : TS) (o : Ok z) (x1 : Int32) (hn : NXx z) : cI l yX11_isWalkerHere cX11_isWalkerHere 3 .boolean ({ frames := 3, cells := 0, slots := 0, locals := 72 }) D K ad z [.ref (ad 386), .int x1] (fun r u => Ok u ∧ KTn z u ∧ iv 0 1 r ∧ (Scx z u)) := by
  have sc0 : Scx z z := Scx.rf hn
  refine t_enterI (by decide) (Nat.le_of_ble_eq_true rfl) rfl rfl ?_
  intro p e s m args below meth c A R Q H locs ls E hfr hlo RET G hl
  have E : mE p s m meth c cX11_isWalkerHere args 3 RX11 D K A := E
  have hl : lv_has ls 3 [(0, .ref (ad 386)), (1, .int x1)] := hl
  refine lv_aload_n E.1 E.2.1 dX11_isWalkerHere_0 rfl (lv_at hl 0 rfl) ?_
  refine t_get E G 11 7 (rfl : ro 386 = 11) (C := RX11) (T := TX11) (N := 37) rfl (by decide) (by decide) (by decide) mw_fl_11_26 (v := .ref (ad 392)) (fvl_o (n := 6) rfl) dX11_isWalkerHere_1 ?_
  refine lv_iconst (v := 4) E.1 E.2.1 dX11_isWalkerHere_4 (by decide) ?_
  refine t_iald E G 50 (rfl : ro 392 = 50) (by decide) (by decide) rfl (n := 96) rfl (by unfold vp_in; decide) dX11_isWalkerHere_5 ?_
  refine lv_topi (fun v1 e2 => ?_)
  have b3 : iv 0 5 v1 := by rw [e2]; exact iv_mono (o.a 50 (rfl : ro 392 = 50) _) (by decide +kernel) (by decide +kernel)
  refine lv_iconst (v := 5) E.1 E.2.1 dX11_isWalkerHere_6 (by decide) ?_
  refine lv_icmp_ne (tgt := 17) E.1 E.2.1 dX11_isWalkerHere_7 (by decide) (fun c4 => ?_) (fun c4 => ?_)
  · skip
    have b5 : iv 0 4 v1 := ne_hi c4 b3 (by decide) (by decide)
    refine lv_aload_n E.1 E.2.1 dX11_isWalkerHere_17 rfl (lv_at hl 0 rfl) ?_
    refine t_vv E G hl (v_passWord l D K ad z o sc0.1) 11 (rfl : ro 386 = 11) (by decide) rfl rfl 0 rfl mw_code_X11_passWord mw_ini_11 mw_ml_11_108 mw_inst_X11_passWord mw_sel_X11_passWord hd_X11_passWord ⟨Nat.le_trans (by decide) hfr, Nat.le_trans (by decide) hlo⟩ rfl rfl rfl (Nat.le_of_ble_eq_true rfl) dX11_isWalkerHere_18 (fun zz6 H locs hp8 G => ?_)
    obtain ⟨oo9, kk10, h11, h12⟩ := hp8
    have kk13 : KTn z zz6 := KF.tr KF.rf (KN8.t kk10)
    have h14 := Scx.tr sc0 h11
    have h15 : tA zz6 392 (4 : Int32).toNatClampNeg = v1 := by rw [(kk10.2.1 392 rfl).1]; exact e2.symm
    refine lv_aload_n E.1 E.2.1 dX11_isWalkerHere_21 rfl (lv_at hl 0 rfl) ?_
    refine t_get E G 11 7 (rfl : ro 386 = 11) (C := RX11) (T := TX11) (N := 37) rfl (by decide) (by decide) (by decide) mw_fl_11_26 (v := .ref (ad 392)) (fvl_o (n := 6) rfl) dX11_isWalkerHere_22 ?_
    refine lv_iconst (v := 4) E.1 E.2.1 dX11_isWalkerHere_25 (by decide) ?_
    refine t_iald E G 50 (rfl : ro 392 = 50) (by decide) (by decide) rfl (n := 96) rfl (by unfold vp_in; decide) dX11_isWalkerHere_26 ?_
    refine m_ci v1 h15 ?_
    refine lv_istore_n (lv' := [(2, .int v1), (0, .ref (ad 386)), (1, .int x1)]) E.1 E.2.1 dX11_isWalkerHere_27 rfl hl (by decide) rfl (fun ls hl => ?_)
    refine lv_aload_n E.1 E.2.1 dX11_isWalkerHere_28 rfl (lv_at hl 1 rfl) ?_
    refine lv_bipush (v := 78) E.1 E.2.1 dX11_isWalkerHere_29 (by decide) ?_
    refine lv_iconst (v := 2) E.1 E.2.1 dX11_isWalkerHere_31 (by decide) ?_
    refine lv_iload_n E.1 E.2.1 dX11_isWalkerHere_32 rfl (lv_at hl 0 rfl) ?_
    refine lv_imul E.1 E.2.1 dX11_isWalkerHere_33 ?_
    refine lv_topi (fun v16 e17 => ?_)
    have b18 : iv 0 8 v16 := by rw [e17]; exact iv_mulc' b5 2 (by decide) (by decide) (by decide) (by decide) (by decide) (by decide)
    have l19 : v16.toInt = 0 + 2 * v1.toInt := (show v16.toInt = 2 * v1.toInt by rw [e17]; exact ti_cmul 2 (by decide) (by decide) b5 (by decide) (by decide)).trans (by omega)
    refine lv_iadd E.1 E.2.1 dX11_isWalkerHere_34 ?_
    refine lv_topi (fun v20 e21 => ?_)
    have b22 : iv 78 86 v20 := by rw [e21]; exact iv_add (iv_lit (lo := 78) (hi := 78) 78 (by decide) (by decide)) b18 (by decide) (by decide) (by decide) (by decide)
    have l23 : v20.toInt = 78 + 2 * v1.toInt := (show v20.toInt = 78 + v16.toInt by rw [e21]; exact ti_cadd 78 (by decide) b18 (by decide) (by decide)).trans (by omega)
    refine lv_iconst (v := 0) E.1 E.2.1 dX11_isWalkerHere_35 (by decide) ?_
    refine lv_aload_n E.1 E.2.1 dX11_isWalkerHere_36 rfl (lv_at hl 1 rfl) ?_
    refine t_get E G 11 7 (rfl : ro 386 = 11) (C := RX11) (T := TX11) (N := 37) rfl (by decide) (by decide) (by decide) mw_fl_11_26 (v := .ref (ad 392)) (fvl_o (n := 6) rfl) dX11_isWalkerHere_37 ?_
    refine lv_iconst (v := 1) E.1 E.2.1 dX11_isWalkerHere_40 (by decide) ?_
    refine t_iald E G 50 (rfl : ro 392 = 50) (by decide) (by decide) rfl (n := 96) rfl (by unfold vp_in; decide) dX11_isWalkerHere_41 ?_
    refine lv_topi (fun v24 e25 => ?_)
    have b26 : iv 0 8 v24 := by rw [e25]; exact iv_mono (oo9.a 50 (rfl : ro 392 = 50) _) (by decide +kernel) (by decide +kernel)
    refine lv_iconst (v := 1) E.1 E.2.1 dX11_isWalkerHere_42 (by decide) ?_
    refine lv_isub E.1 E.2.1 dX11_isWalkerHere_43 ?_
    refine lv_topi (fun v27 e28 => ?_)
    have b29 : iv (-1) 7 v27 := by rw [e28]; exact iv_sub b26 (iv_lit (lo := 1) (hi := 1) 1 (by decide) (by decide)) (by decide) (by decide) (by decide) (by decide)
    have l30 : v27.toInt = (-1) + 1 * v24.toInt := (show v27.toInt = v24.toInt - 1 by rw [e28]; exact ti_subc 1 (by decide) b26 (by decide) (by decide)).trans (by omega)
    refine t_vi E G hl (v_cellHere l D K ad zz6 oo9 v20 (iv_mono b22 (by decide) (by decide)) (0 : Int32) v27 h14.1 (fun v p q => (wr1 78 2 0 4 (show iv 0 7 v from ⟨by have := (iv_lit (lo := 0) (hi := 0) 0 (by decide) (by decide)).1; omega, by have := b29.2; omega⟩) b5 (l23.trans (by omega)) (by decide +kernel)))) 11 (rfl : ro 386 = 11) (by decide) rfl rfl 3 rfl mw_code_X11_cellHere mw_ini_11 mw_ml_11_219 mw_inst_X11_cellHere mw_sel_X11_cellHere hd_X11_cellHere ⟨Nat.le_trans (by decide) hfr, Nat.le_trans (by decide) hlo⟩ rfl rfl rfl (Nat.le_of_ble_eq_true rfl) dX11_isWalkerHere_44 (fun r32 zz31 H locs hp33 G => ?_)
    obtain ⟨oo34, kk35, b36, h37, h38⟩ := hp33
    have kk39 : KTn z zz31 := KF.tr kk13 kk35
    have h40 := Scx.tr h14 h37
    have h41 : tA zz31 392 (4 : Int32).toNatClampNeg = v1 := (h38 _ (cl_ne b22 4 (by decide))).trans h15
    have h42 : tA zz31 392 (1 : Int32).toNatClampNeg = v24 := (h38 _ (cl_ne b22 1 (by decide))).trans e25.symm
    refine lv_if_eq (tgt := 70) E.1 E.2.1 dX11_isWalkerHere_47 (by decide) (fun c43 => ?_) (fun c43 => ?_)
    · skip
      have b44 : iv 0 0 r32 := iv_eq c43 (iv_lit (lo := 0) (hi := 0) 0 (by decide) (by decide))
      refine lv_iconst (v := 0) E.1 E.2.1 dX11_isWalkerHere_70 (by decide) ?_
      exact RET G ⟨oo34, kk39, (iv_mono (iv_lit (lo := 0) (hi := 0) 0 (by decide) (by decide)) (by decide) (by decide)), h40⟩ (by decide) dX11_isWalkerHere_71
    · skip
      have b45 : iv 1 1 r32 := ne_lo c43 b36 (by decide) (by decide)
      refine lv_aload_n E.1 E.2.1 dX11_isWalkerHere_50 rfl (lv_at hl 1 rfl) ?_
      refine lv_bipush (v := 56) E.1 E.2.1 dX11_isWalkerHere_51 (by decide) ?_
      refine lv_iload_n E.1 E.2.1 dX11_isWalkerHere_53 rfl (lv_at hl 0 rfl) ?_
      refine lv_iadd E.1 E.2.1 dX11_isWalkerHere_54 ?_
      refine lv_topi (fun v46 e47 => ?_)
      have b48 : iv 56 60 v46 := by rw [e47]; exact iv_add (iv_lit (lo := 56) (hi := 56) 56 (by decide) (by decide)) b5 (by decide) (by decide) (by decide) (by decide)
      have l49 : v46.toInt = 56 + 1 * v1.toInt := (show v46.toInt = 56 + v1.toInt by rw [e47]; exact ti_cadd 56 (by decide) b5 (by decide) (by decide)).trans (by omega)
      refine lv_iconst (v := 0) E.1 E.2.1 dX11_isWalkerHere_55 (by decide) ?_
      refine lv_aload_n E.1 E.2.1 dX11_isWalkerHere_56 rfl (lv_at hl 1 rfl) ?_
      refine t_get E G 11 7 (rfl : ro 386 = 11) (C := RX11) (T := TX11) (N := 37) rfl (by decide) (by decide) (by decide) mw_fl_11_26 (v := .ref (ad 392)) (fvl_o (n := 6) rfl) dX11_isWalkerHere_57 ?_
      refine lv_iconst (v := 1) E.1 E.2.1 dX11_isWalkerHere_60 (by decide) ?_
      refine t_iald E G 50 (rfl : ro 392 = 50) (by decide) (by decide) rfl (n := 96) rfl (by unfold vp_in; decide) dX11_isWalkerHere_61 ?_
      refine m_ci v24 h42 ?_
      refine lv_iconst (v := 1) E.1 E.2.1 dX11_isWalkerHere_62 (by decide) ?_
      refine lv_isub E.1 E.2.1 dX11_isWalkerHere_63 ?_
      refine lv_topi (fun v50 e51 => ?_)
      have b52 : iv (-1) 7 v50 := by rw [e51]; exact iv_sub b26 (iv_lit (lo := 1) (hi := 1) 1 (by decide) (by decide)) (by decide) (by decide) (by decide) (by decide)
      have l53 : v50.toInt = (-1) + 1 * v24.toInt := (show v50.toInt = v24.toInt - 1 by rw [e51]; exact ti_subc 1 (by decide) b26 (by decide) (by decide)).trans (by omega)
      refine t_vi E G hl (v_cellHere l D K ad zz31 oo34 v46 (iv_mono b48 (by decide) (by decide)) (0 : Int32) v50 h40.1 (fun v p q => (wr1 56 1 0 4 (show iv 0 7 v from ⟨by have := (iv_lit (lo := 0) (hi := 0) 0 (by decide) (by decide)).1; omega, by have := b52.2; omega⟩) b5 (l49.trans (by omega)) (by decide +kernel)))) 11 (rfl : ro 386 = 11) (by decide) rfl rfl 3 rfl mw_code_X11_cellHere mw_ini_11 mw_ml_11_219 mw_inst_X11_cellHere mw_sel_X11_cellHere hd_X11_cellHere ⟨Nat.le_trans (by decide) hfr, Nat.le_trans (by decide) hlo⟩ rfl rfl rfl (Nat.le_of_ble_eq_true rfl) dX11_isWalkerHere_64 (fun r55 zz54 H locs hp56 G => ?_)
      obtain ⟨oo57, kk58, b59, h60, h61⟩ := hp56
      have kk62 : KTn z zz54 := KF.tr kk39 kk58
      have h63 := Scx.tr h40 h60
      have h64 : tA zz54 392 (4 : Int32).toNatClampNeg = v1 := (h61 _ (cl_ne b48 4 (by decide))).trans h41
      have h65 : tA zz54 392 (1 : Int32).toNatClampNeg = v24 := (h61 _ (cl_ne b48 1 (by decide))).trans h42
      refine lv_if_ne (tgt := 72) E.1 E.2.1 dX11_isWalkerHere_67 (by decide) (fun c66 => ?_) (fun c66 => ?_)
      · skip
        have b67 : iv 1 1 r55 := ne_lo c66 b59 (by decide) (by decide)
        refine lv_aload_n E.1 E.2.1 dX11_isWalkerHere_72 rfl (lv_at hl 1 rfl) ?_
        refine lv_bipush (v := 61) E.1 E.2.1 dX11_isWalkerHere_73 (by decide) ?_
        refine lv_iload_n E.1 E.2.1 dX11_isWalkerHere_75 rfl (lv_at hl 0 rfl) ?_
        refine lv_iadd E.1 E.2.1 dX11_isWalkerHere_76 ?_
        refine lv_topi (fun v68 e69 => ?_)
        have b70 : iv 61 65 v68 := by rw [e69]; exact iv_add (iv_lit (lo := 61) (hi := 61) 61 (by decide) (by decide)) b5 (by decide) (by decide) (by decide) (by decide)
        have l71 : v68.toInt = 61 + 1 * v1.toInt := (show v68.toInt = 61 + v1.toInt by rw [e69]; exact ti_cadd 61 (by decide) b5 (by decide) (by decide)).trans (by omega)
        refine lv_iconst (v := 0) E.1 E.2.1 dX11_isWalkerHere_77 (by decide) ?_
        refine lv_bipush (v := 7) E.1 E.2.1 dX11_isWalkerHere_78 (by decide) ?_
        refine t_vi E G hl (v_cellHere l D K ad zz54 oo57 v68 (iv_mono b70 (by decide) (by decide)) (0 : Int32) (7 : Int32) h63.1 (fun v p q => (wr1 61 1 0 4 (show iv 0 7 v from ⟨by have := (iv_lit (lo := 0) (hi := 0) 0 (by decide) (by decide)).1; omega, by have := (iv_lit (lo := 7) (hi := 7) 7 (by decide) (by decide)).2; omega⟩) b5 (l71.trans (by omega)) (by decide +kernel)))) 11 (rfl : ro 386 = 11) (by decide) rfl rfl 3 rfl mw_code_X11_cellHere mw_ini_11 mw_ml_11_219 mw_inst_X11_cellHere mw_sel_X11_cellHere hd_X11_cellHere ⟨Nat.le_trans (by decide) hfr, Nat.le_trans (by decide) hlo⟩ rfl rfl rfl (Nat.le_of_ble_eq_true rfl) dX11_isWalkerHere_80 (fun r73 zz72 H locs hp74 G => ?_)
        obtain ⟨oo75, kk76, b77, h78, h79⟩ := hp74
        have kk80 : KTn z zz72 := KF.tr kk62 kk76
        have h81 := Scx.tr h63 h78
        have h82 : tA zz72 392 (4 : Int32).toNatClampNeg = v1 := (h79 _ (cl_ne b70 4 (by decide))).trans h64
        have h83 : tA zz72 392 (1 : Int32).toNatClampNeg = v24 := (h79 _ (cl_ne b70 1 (by decide))).trans h65
        refine lv_if_eq (tgt := 104) E.1 E.2.1 dX11_isWalkerHere_83 (by decide) (fun c84 => ?_) (fun c84 => ?_)
        · skip
          have b85 : iv 0 0 r73 := iv_eq c84 (iv_lit (lo := 0) (hi := 0) 0 (by decide) (by decide))
          refine lv_iconst (v := 0) E.1 E.2.1 dX11_isWalkerHere_104 (by decide) ?_
          exact RET G ⟨oo75, kk80, (iv_mono (iv_lit (lo := 0) (hi := 0) 0 (by decide) (by decide)) (by decide) (by decide)), h81⟩ (by decide) dX11_isWalkerHere_105
        · skip
          have b86 : iv 1 1 r73 := ne_lo c84 b77 (by decide) (by decide)
          refine lv_aload_n E.1 E.2.1 dX11_isWalkerHere_86 rfl (lv_at hl 1 rfl) ?_
          refine lv_bipush (v := 78) E.1 E.2.1 dX11_isWalkerHere_87 (by decide) ?_
          refine lv_iconst (v := 2) E.1 E.2.1 dX11_isWalkerHere_89 (by decide) ?_
          refine lv_iload_n E.1 E.2.1 dX11_isWalkerHere_90 rfl (lv_at hl 0 rfl) ?_
          refine lv_imul E.1 E.2.1 dX11_isWalkerHere_91 ?_
          refine lv_topi (fun v87 e88 => ?_)
          have b89 : iv 0 8 v87 := by rw [e88]; exact iv_mulc' b5 2 (by decide) (by decide) (by decide) (by decide) (by decide) (by decide)
          have l90 : v87.toInt = 0 + 2 * v1.toInt := (show v87.toInt = 2 * v1.toInt by rw [e88]; exact ti_cmul 2 (by decide) (by decide) b5 (by decide) (by decide)).trans (by omega)
          refine lv_iadd E.1 E.2.1 dX11_isWalkerHere_92 ?_
          refine lv_topi (fun v91 e92 => ?_)
          have b93 : iv 78 86 v91 := by rw [e92]; exact iv_add (iv_lit (lo := 78) (hi := 78) 78 (by decide) (by decide)) b89 (by decide) (by decide) (by decide) (by decide)
          have l94 : v91.toInt = 78 + 2 * v1.toInt := (show v91.toInt = 78 + v87.toInt by rw [e92]; exact ti_cadd 78 (by decide) b89 (by decide) (by decide)).trans (by omega)
          refine lv_iconst (v := 1) E.1 E.2.1 dX11_isWalkerHere_93 (by decide) ?_
          refine lv_iadd E.1 E.2.1 dX11_isWalkerHere_94 ?_
          refine lv_topi (fun v95 e96 => ?_)
          have b97 : iv 79 87 v95 := by rw [e96]; exact iv_add b93 (iv_lit (lo := 1) (hi := 1) 1 (by decide) (by decide)) (by decide) (by decide) (by decide) (by decide)
          have l98 : v95.toInt = 79 + 2 * v1.toInt := (show v95.toInt = v91.toInt + 1 by rw [e96]; exact ti_addc 1 (by decide) b93 (by decide) (by decide)).trans (by omega)
          refine lv_iconst (v := 0) E.1 E.2.1 dX11_isWalkerHere_95 (by decide) ?_
          refine lv_bipush (v := 9) E.1 E.2.1 dX11_isWalkerHere_96 (by decide) ?_
          refine t_vi E G hl (v_cellHere l D K ad zz72 oo75 v95 (iv_mono b97 (by decide) (by decide)) (0 : Int32) (9 : Int32) h81.1 (fun v p q => (wr1 79 2 0 4 (show iv 0 9 v from ⟨by have := (iv_lit (lo := 0) (hi := 0) 0 (by decide) (by decide)).1; omega, by have := (iv_lit (lo := 9) (hi := 9) 9 (by decide) (by decide)).2; omega⟩) b5 (l98.trans (by omega)) (by decide +kernel)))) 11 (rfl : ro 386 = 11) (by decide) rfl rfl 3 rfl mw_code_X11_cellHere mw_ini_11 mw_ml_11_219 mw_inst_X11_cellHere mw_sel_X11_cellHere hd_X11_cellHere ⟨Nat.le_trans (by decide) hfr, Nat.le_trans (by decide) hlo⟩ rfl rfl rfl (Nat.le_of_ble_eq_true rfl) dX11_isWalkerHere_98 (fun r100 zz99 H locs hp101 G => ?_)
          obtain ⟨oo102, kk103, b104, h105, h106⟩ := hp101
          have kk107 : KTn z zz99 := KF.tr kk80 kk103
          have h108 := Scx.tr h81 h105
          have h109 : tA zz99 392 (4 : Int32).toNatClampNeg = v1 := (h106 _ (cl_ne b97 4 (by decide))).trans h82
          have h110 : tA zz99 392 (1 : Int32).toNatClampNeg = v24 := (h106 _ (cl_ne b97 1 (by decide))).trans h83
          refine lv_if_ne (tgt := 106) E.1 E.2.1 dX11_isWalkerHere_101 (by decide) (fun c111 => ?_) (fun c111 => ?_)
          · skip
            have b112 : iv 1 1 r100 := ne_lo c111 b104 (by decide) (by decide)
            refine lv_aload_n E.1 E.2.1 dX11_isWalkerHere_106 rfl (lv_at hl 1 rfl) ?_
            refine t_get E G 11 7 (rfl : ro 386 = 11) (C := RX11) (T := TX11) (N := 37) rfl (by decide) (by decide) (by decide) mw_fl_11_26 (v := .ref (ad 392)) (fvl_o (n := 6) rfl) dX11_isWalkerHere_107 ?_
            refine lv_iconst (v := 4) E.1 E.2.1 dX11_isWalkerHere_110 (by decide) ?_
            refine lv_dup2_11 E.1 E.2.1 dX11_isWalkerHere_111 rfl rfl ?_
            refine t_iald E G 50 (rfl : ro 392 = 50) (by decide) (by decide) rfl (n := 96) rfl (by unfold vp_in; decide) dX11_isWalkerHere_112 ?_
            refine m_ci v1 h109 ?_
            refine lv_iconst (v := 1) E.1 E.2.1 dX11_isWalkerHere_113 (by decide) ?_
            refine lv_iadd E.1 E.2.1 dX11_isWalkerHere_114 ?_
            refine lv_topi (fun v113 e114 => ?_)
            have b115 : iv 1 5 v113 := by rw [e114]; exact iv_add b5 (iv_lit (lo := 1) (hi := 1) 1 (by decide) (by decide)) (by decide) (by decide) (by decide) (by decide)
            have l116 : v113.toInt = 1 + 1 * v1.toInt := (show v113.toInt = v1.toInt + 1 by rw [e114]; exact ti_addc 1 (by decide) b5 (by decide) (by decide)).trans (by omega)
            refine t_iast E G 50 (rfl : ro 392 = 50) (by decide) (by decide) rfl (n := 96) rfl (by unfold vp_in; decide) dX11_isWalkerHere_115 (fun H locs G => ?_)
            obtain ⟨zz119, G, oo120, kk121, h117, h118⟩ : ∃ u : TS, mG D A s H locs (wd K ad u) ∧ Ok u ∧ KTn z u ∧ (tA u 392 (1 : Int32).toNatClampNeg = v24) ∧ (Scx z u) := ⟨_, G, ok_u oo102 50 (rfl : ro 392 = 50) (iv_mono b115 (by decide +kernel) (by decide +kernel)) (by decide), KF.tr kk107 (KF_r 50 (rfl : ro 392 = 50) (by decide)), (sR_n h110 (cl_ne (iv_lit (lo := 4) (hi := 4) 4 (by decide) (by decide)) 1 (by decide))), h108⟩
            refine lv_iconst (v := 1) E.1 E.2.1 dX11_isWalkerHere_116 (by decide) ?_
            exact RET G ⟨oo120, kk121, (iv_mono (iv_lit (lo := 1) (hi := 1) 1 (by decide) (by decide)) (by decide) (by decide)), h118⟩ (by decide) dX11_isWalkerHere_117
          · skip
            have b122 : iv 0 0 r100 := iv_eq c111 (iv_lit (lo := 0) (hi := 0) 0 (by decide) (by decide))
            refine lv_iconst (v := 0) E.1 E.2.1 dX11_isWalkerHere_104 (by decide) ?_
            exact RET G ⟨oo102, kk107, (iv_mono (iv_lit (lo := 0) (hi := 0) 0 (by decide) (by decide)) (by decide) (by decide)), h108⟩ (by decide) dX11_isWalkerHere_105
      · skip
        have b123 : iv 0 0 r55 := iv_eq c66 (iv_lit (lo := 0) (hi := 0) 0 (by decide) (by decide))
        refine lv_iconst (v := 0) E.1 E.2.1 dX11_isWalkerHere_70 (by decide) ?_
        exact RET G ⟨oo57, kk62, (iv_mono (iv_lit (lo := 0) (hi := 0) 0 (by decide) (by decide)) (by decide) (by decide)), h63⟩ (by decide) dX11_isWalkerHere_71
  · skip
    have b124 : iv 5 5 v1 := iv_eq c4 (iv_lit (lo := 5) (hi := 5) 5 (by decide) (by decide))
    refine lv_aload_n E.1 E.2.1 dX11_isWalkerHere_10 rfl (lv_at hl 0 rfl) ?_
    refine lv_iconst (v := 4) E.1 E.2.1 dX11_isWalkerHere_11 (by decide) ?_
    refine lv_iload_n E.1 E.2.1 dX11_isWalkerHere_12 rfl (lv_at hl 1 rfl) ?_
    refine t_vi E G hl (v_fails l D K ad z o (4 : Int32) x1) 11 (rfl : ro 386 = 11) (by decide) rfl rfl 2 rfl mw_code_X11_fails mw_ini_11 mw_ml_11_114 mw_inst_X11_fails mw_sel_X11_fails hd_X11_fails ⟨Nat.le_trans (by decide) hfr, Nat.le_trans (by decide) hlo⟩ rfl rfl rfl (Nat.le_of_ble_eq_true rfl) dX11_isWalkerHere_13 (fun r126 zz125 H locs hp127 G => ?_)
    obtain ⟨oo128, kk129, b130⟩ := hp127
    have kk131 : KTn z zz125 := KF.tr KF.rf (KA9.t kk129)
    have h132 := Scx.tr sc0 (Scx.k sc0.1 kk129 rfl rfl)
    have h133 : tA zz125 392 (4 : Int32).toNatClampNeg = v1 := by rw [(kk129.2.1 392 rfl).1]; exact e2.symm
    exact RET G ⟨oo128, kk131, (iv_mono b130 (by decide) (by decide)), h132⟩ (nar_b b130) dX11_isWalkerHere_16
