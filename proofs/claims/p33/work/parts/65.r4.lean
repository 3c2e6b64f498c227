theorem mw_code_X11_homeFrom : (Cond.code yX11_homeFrom cX11_homeFrom 3 (some .int) : Cond) ∈ cw := cw_of (List.mem_append_right _ (List.mem_append_right _ (List.mem_append_right _ (List.mem_append_right _ (List.mem_append_right _ (List.mem_append_right _ (List.mem_append_left _ (List.mem_of_getElem? (i := 237) rfl)))))))) (by decide +kernel)
theorem mw_code_X11_isCorner : (Cond.code yX11_isCorner cX11_isCorner 2 (some .boolean) : Cond) ∈ cw := cw_of (List.mem_append_right _ (List.mem_append_right _ (List.mem_append_right _ (List.mem_append_right _ (List.mem_append_right _ (List.mem_append_right _ (List.mem_append_left _ (List.mem_of_getElem? (i := 205) rfl)))))))) (by decide +kernel)
theorem mw_code_X11_isRule : (Cond.code yX11_isRule cX11_isRule 2 (some .boolean) : Cond) ∈ cw := cw_of (List.mem_append_right _ (List.mem_append_right _ (List.mem_append_right _ (List.mem_append_right _ (List.mem_append_right _ (List.mem_append_right _ (List.mem_append_left _ (List.mem_of_getElem? (i := 161) rfl)))))))) (by decide +kernel)
theorem mw_code_X11_isWalker : (Cond.code yX11_isWalker cX11_isWalker 2 (some .boolean) : Cond) ∈ cw := cw_of (List.mem_append_right _ (List.mem_append_right _ (List.mem_append_right _ (List.mem_append_right _ (List.mem_append_right _ (List.mem_append_right _ (List.mem_append_left _ (List.mem_of_getElem? (i := 185) rfl)))))))) (by decide +kernel)
theorem mw_code_X11_lureAt : (Cond.code yX11_lureAt cX11_lureAt 2 (some .int) : Cond) ∈ cw := cw_of (List.mem_append_right _ (List.mem_append_right _ (List.mem_append_right _ (List.mem_append_right _ (List.mem_append_right _ (List.mem_append_right _ (List.mem_append_left _ (List.mem_of_getElem? (i := 173) rfl)))))))) (by decide +kernel)
theorem mw_code_X11_waysBut : (Cond.code yX11_waysBut cX11_waysBut 6 (some .int) : Cond) ∈ cw := cw_of (List.mem_append_right _ (List.mem_append_right _ (List.mem_append_right _ (List.mem_append_right _ (List.mem_append_right _ (List.mem_append_right _ (List.mem_append_right _ (List.mem_append_left _ (List.mem_of_getElem? (i := 1) rfl))))))))) (by decide +kernel)
theorem mw_code_X11_wouldHave : (Cond.code yX11_wouldHave cX11_wouldHave 3 (some .boolean) : Cond) ∈ cw := cw_of (List.mem_append_right _ (List.mem_append_right _ (List.mem_append_right _ (List.mem_append_right _ (List.mem_append_right _ (List.mem_append_right _ (List.mem_append_right _ (List.mem_append_left _ (List.mem_of_getElem? (i := 20) rfl))))))))) (by decide +kernel)
theorem mw_fl_11_42 : (Cond.fieldLink RX11 42 "LureTownModel" "force" "I" : Cond) ∈ cw := cw_of (List.mem_append_right _ (List.mem_append_right _ (List.mem_append_right _ (List.mem_append_right _ (List.mem_append_right _ (List.mem_append_left _ (List.mem_of_getElem? (i := 128) (by decide +kernel)))))))) (by decide +kernel)
theorem mw_inst_X11_homeFrom : (Cond.instanceMethod yX11_homeFrom : Cond) ∈ cw := cw_of (List.mem_append_right _ (List.mem_append_right _ (List.mem_append_right _ (List.mem_append_right _ (List.mem_append_right _ (List.mem_append_right _ (List.mem_append_left _ (List.mem_of_getElem? (i := 236) (by decide +kernel))))))))) (by decide +kernel)
theorem mw_inst_X11_isCorner : (Cond.instanceMethod yX11_isCorner : Cond) ∈ cw := cw_of (List.mem_append_right _ (List.mem_append_right _ (List.mem_append_right _ (List.mem_append_right _ (List.mem_append_right _ (List.mem_append_right _ (List.mem_append_left _ (List.mem_of_getElem? (i := 204) (by decide +kernel))))))))) (by decide +kernel)
theorem mw_inst_X11_isRule : (Cond.instanceMethod yX11_isRule : Cond) ∈ cw := cw_of (List.mem_append_right _ (List.mem_append_right _ (List.mem_append_right _ (List.mem_append_right _ (List.mem_append_right _ (List.mem_append_right _ (List.mem_append_left _ (List.mem_of_getElem? (i := 160) (by decide +kernel))))))))) (by decide +kernel)
theorem mw_inst_X11_isWalker : (Cond.instanceMethod yX11_isWalker : Cond) ∈ cw := cw_of (List.mem_append_right _ (List.mem_append_right _ (List.mem_append_right _ (List.mem_append_right _ (List.mem_append_right _ (List.mem_append_right _ (List.mem_append_left _ (List.mem_of_getElem? (i := 184) (by decide +kernel))))))))) (by decide +kernel)
theorem mw_inst_X11_lureAt : (Cond.instanceMethod yX11_lureAt : Cond) ∈ cw := cw_of (List.mem_append_right _ (List.mem_append_right _ (List.mem_append_right _ (List.mem_append_right _ (List.mem_append_right _ (List.mem_append_right _ (List.mem_append_left _ (List.mem_of_getElem? (i := 172) (by decide +kernel))))))))) (by decide +kernel)
theorem mw_inst_X11_waysBut : (Cond.instanceMethod yX11_waysBut : Cond) ∈ cw := cw_of (List.mem_append_right _ (List.mem_append_right _ (List.mem_append_right _ (List.mem_append_right _ (List.mem_append_right _ (List.mem_append_right _ (List.mem_append_right _ (List.mem_append_left _ (List.mem_of_getElem? (i := 0) (by decide +kernel)))))))))) (by decide +kernel)
theorem mw_inst_X11_wouldHave : (Cond.instanceMethod yX11_wouldHave : Cond) ∈ cw := cw_of (List.mem_append_right _ (List.mem_append_right _ (List.mem_append_right _ (List.mem_append_right _ (List.mem_append_right _ (List.mem_append_right _ (List.mem_append_right _ (List.mem_append_left _ (List.mem_of_getElem? (i := 19) (by decide +kernel)))))))))) (by decide +kernel)
theorem mw_ml_11_304 : (Cond.methodLink RX11 304 yX11_waysBut : Cond) ∈ cw := cw_of (List.mem_append_right _ (List.mem_append_right _ (List.mem_append_right _ (List.mem_append_right _ (List.mem_append_right _ (List.mem_append_right _ (List.mem_append_left _ (List.mem_of_getElem? (i := 238) (by decide +kernel))))))))) (by decide +kernel)
theorem mw_ml_11_308 : (Cond.methodLink RX11 308 yX11_isRule : Cond) ∈ cw := cw_of (List.mem_append_right _ (List.mem_append_right _ (List.mem_append_right _ (List.mem_append_right _ (List.mem_append_right _ (List.mem_append_right _ (List.mem_append_left _ (List.mem_of_getElem? (i := 158) (by decide +kernel))))))))) (by decide +kernel)
theorem mw_ml_11_311 : (Cond.methodLink RX11 311 yX11_lureAt : Cond) ∈ cw := cw_of (List.mem_append_right _ (List.mem_append_right _ (List.mem_append_right _ (List.mem_append_right _ (List.mem_append_right _ (List.mem_append_right _ (List.mem_append_left _ (List.mem_of_getElem? (i := 170) (by decide +kernel))))))))) (by decide +kernel)
theorem mw_ml_11_317 : (Cond.methodLink RX11 317 yX11_isWalker : Cond) ∈ cw := cw_of (List.mem_append_right _ (List.mem_append_right _ (List.mem_append_right _ (List.mem_append_right _ (List.mem_append_right _ (List.mem_append_right _ (List.mem_append_left _ (List.mem_of_getElem? (i := 182) (by decide +kernel))))))))) (by decide +kernel)
theorem mw_ml_11_323 : (Cond.methodLink RX11 323 yX11_isCorner : Cond) ∈ cw := cw_of (List.mem_append_right _ (List.mem_append_right _ (List.mem_append_right _ (List.mem_append_right _ (List.mem_append_right _ (List.mem_append_right _ (List.mem_append_left _ (List.mem_of_getElem? (i := 202) (by decide +kernel))))))))) (by decide +kernel)
theorem mw_ml_11_330 : (Cond.methodLink RX11 330 yX11_wouldHave : Cond) ∈ cw := cw_of (List.mem_append_right _ (List.mem_append_right _ (List.mem_append_right _ (List.mem_append_right _ (List.mem_append_right _ (List.mem_append_right _ (List.mem_append_right _ (List.mem_append_left _ (List.mem_of_getElem? (i := 17) (by decide +kernel)))))))))) (by decide +kernel)
theorem mw_ml_11_333 : (Cond.methodLink RX11 333 yX11_homeFrom : Cond) ∈ cw := cw_of (List.mem_append_right _ (List.mem_append_right _ (List.mem_append_right _ (List.mem_append_right _ (List.mem_append_right _ (List.mem_append_right _ (List.mem_append_left _ (List.mem_of_getElem? (i := 234) (by decide +kernel))))))))) (by decide +kernel)
theorem mw_sel_X11_homeFrom : (Cond.selects RX11 yX11_homeFrom yX11_homeFrom : Cond) ∈ cw := cw_of (List.mem_append_left _ (List.mem_of_getElem? (i := 94) (by decide +kernel))) (by decide +kernel)
theorem mw_sel_X11_isCorner : (Cond.selects RX11 yX11_isCorner yX11_isCorner : Cond) ∈ cw := cw_of (List.mem_append_left _ (List.mem_of_getElem? (i := 88) (by decide +kernel))) (by decide +kernel)
theorem mw_sel_X11_isRule : (Cond.selects RX11 yX11_isRule yX11_isRule : Cond) ∈ cw := cw_of (List.mem_append_left _ (List.mem_of_getElem? (i := 80) (by decide +kernel))) (by decide +kernel)
theorem mw_sel_X11_isWalker : (Cond.selects RX11 yX11_isWalker yX11_isWalker : Cond) ∈ cw := cw_of (List.mem_append_left _ (List.mem_of_getElem? (i := 84) (by decide +kernel))) (by decide +kernel)
theorem mw_sel_X11_lureAt : (Cond.selects RX11 yX11_lureAt yX11_lureAt : Cond) ∈ cw := cw_of (List.mem_append_left _ (List.mem_of_getElem? (i := 82) (by decide +kernel))) (by decide +kernel)
theorem mw_sel_X11_waysBut : (Cond.selects RX11 yX11_waysBut yX11_waysBut : Cond) ∈ cw := cw_of (List.mem_append_left _ (List.mem_of_getElem? (i := 95) (by decide +kernel))) (by decide +kernel)
theorem mw_sel_X11_wouldHave : (Cond.selects RX11 yX11_wouldHave yX11_wouldHave : Cond) ∈ cw := cw_of (List.mem_append_left _ (List.mem_of_getElem? (i := 99) (by decide +kernel))) (by decide +kernel)
theorem dX11_force_0 : decode cX11_force 0 = .ok (.iload_n 1, 1) := by decide +kernel
theorem dX11_force_1 : decode cX11_force 1 = .ok (.iconst (-1), 1) := by decide +kernel
theorem dX11_force_2 : decode cX11_force 2 = .ok (.if_icmp .eq 14, 3) := by decide +kernel
theorem dX11_force_5 : decode cX11_force 5 = .ok (.aload_n 0, 1) := by decide +kernel
theorem dX11_force_6 : decode cX11_force 6 = .ok (.iload_n 1, 1) := by decide +kernel
theorem dX11_force_7 : decode cX11_force 7 = .ok (.invokevirtual 308, 3) := by decide +kernel
theorem dX11_force_10 : decode cX11_force 10 = .ok (.ifCond .ne 6, 3) := by decide +kernel
theorem dX11_force_13 : decode cX11_force 13 = .ok (.bipush (-2), 2) := by decide +kernel
theorem dX11_force_15 : decode cX11_force 15 = .ok (.ireturn, 1) := by decide +kernel
theorem dX11_force_16 : decode cX11_force 16 = .ok (.aload_n 0, 1) := by decide +kernel
theorem dX11_force_17 : decode cX11_force 17 = .ok (.getfield 42, 3) := by decide +kernel
theorem dX11_force_20 : decode cX11_force 20 = .ok (.istore_n 2, 1) := by decide +kernel
theorem dX11_force_21 : decode cX11_force 21 = .ok (.aload_n 0, 1) := by decide +kernel
theorem dX11_force_22 : decode cX11_force 22 = .ok (.iload_n 1, 1) := by decide +kernel
theorem dX11_force_23 : decode cX11_force 23 = .ok (.putfield 42, 3) := by decide +kernel
theorem dX11_force_26 : decode cX11_force 26 = .ok (.iload_n 2, 1) := by decide +kernel
theorem dX11_force_27 : decode cX11_force 27 = .ok (.ireturn, 1) := by decide +kernel
theorem dX11_has_0 : decode cX11_has 0 = .ok (.bipush 29, 2) := by decide +kernel
theorem dX11_has_2 : decode cX11_has 2 = .ok (.iconst 3, 1) := by decide +kernel
theorem dX11_has_3 : decode cX11_has 3 = .ok (.iload_n 2, 1) := by decide +kernel
theorem dX11_has_4 : decode cX11_has 4 = .ok (.imul, 1) := by decide +kernel
theorem dX11_has_5 : decode cX11_has 5 = .ok (.iadd, 1) := by decide +kernel
theorem dX11_has_6 : decode cX11_has 6 = .ok (.istore_n 3, 1) := by decide +kernel
theorem dX11_has_7 : decode cX11_has 7 = .ok (.aload_n 0, 1) := by decide +kernel
theorem dX11_has_8 : decode cX11_has 8 = .ok (.iload_n 2, 1) := by decide +kernel
theorem dX11_has_9 : decode cX11_has 9 = .ok (.invokevirtual 294, 3) := by decide +kernel
theorem dX11_has_12 : decode cX11_has 12 = .ok (.aload_n 0, 1) := by decide +kernel
theorem dX11_has_13 : decode cX11_has 13 = .ok (.getfield 39, 3) := by decide +kernel
theorem dX11_has_16 : decode cX11_has 16 = .ok (.bipush 50, 2) := by decide +kernel
theorem dX11_has_18 : decode cX11_has 18 = .ok (.iload_n 1, 1) := by decide +kernel
theorem dX11_has_19 : decode cX11_has 19 = .ok (.iadd, 1) := by decide +kernel
theorem dX11_has_20 : decode cX11_has 20 = .ok (.iaload, 1) := by decide +kernel
theorem dX11_has_21 : decode cX11_has 21 = .ok (.iadd, 1) := by decide +kernel
theorem dX11_has_22 : decode cX11_has 22 = .ok (.istore 4, 2) := by decide +kernel
theorem dX11_has_24 : decode cX11_has 24 = .ok (.aload_n 0, 1) := by decide +kernel
theorem dX11_has_25 : decode cX11_has 25 = .ok (.getfield 39, 3) := by decide +kernel
theorem dX11_has_28 : decode cX11_has 28 = .ok (.bipush 11, 2) := by decide +kernel
theorem dX11_has_30 : decode cX11_has 30 = .ok (.iconst 3, 1) := by decide +kernel
theorem dX11_has_31 : decode cX11_has 31 = .ok (.iload_n 1, 1) := by decide +kernel
theorem dX11_has_32 : decode cX11_has 32 = .ok (.imul, 1) := by decide +kernel
theorem dX11_has_33 : decode cX11_has 33 = .ok (.iadd, 1) := by decide +kernel
theorem dX11_has_34 : decode cX11_has 34 = .ok (.iconst 2, 1) := by decide +kernel
theorem dX11_has_35 : decode cX11_has 35 = .ok (.iadd, 1) := by decide +kernel
theorem dX11_has_36 : decode cX11_has 36 = .ok (.iconst 0, 1) := by decide +kernel
theorem dX11_has_37 : decode cX11_has 37 = .ok (.iastore, 1) := by decide +kernel
theorem dX11_has_38 : decode cX11_has 38 = .ok (.aload_n 0, 1) := by decide +kernel
theorem dX11_has_39 : decode cX11_has 39 = .ok (.getfield 39, 3) := by decide +kernel
theorem dX11_has_42 : decode cX11_has 42 = .ok (.iload_n 3, 1) := by decide +kernel
theorem dX11_has_43 : decode cX11_has 43 = .ok (.iconst 2, 1) := by decide +kernel
theorem dX11_has_44 : decode cX11_has 44 = .ok (.iadd, 1) := by decide +kernel
theorem dX11_has_45 : decode cX11_has 45 = .ok (.iload 4, 2) := by decide +kernel
theorem dX11_has_47 : decode cX11_has 47 = .ok (.sipush 999, 3) := by decide +kernel
theorem dX11_has_50 : decode cX11_has 50 = .ok (.if_icmp .le 9, 3) := by decide +kernel
theorem dX11_has_53 : decode cX11_has 53 = .ok (.sipush 999, 3) := by decide +kernel
theorem dX11_has_56 : decode cX11_has 56 = .ok (.goto 5, 3) := by decide +kernel
theorem dX11_has_59 : decode cX11_has 59 = .ok (.iload 4, 2) := by decide +kernel
theorem dX11_has_61 : decode cX11_has 61 = .ok (.iastore, 1) := by decide +kernel
theorem dX11_has_62 : decode cX11_has 62 = .ok (.aload_n 0, 1) := by decide +kernel
theorem dX11_has_63 : decode cX11_has 63 = .ok (.iload_n 2, 1) := by decide +kernel
theorem dX11_has_64 : decode cX11_has 64 = .ok (.invokevirtual 320, 3) := by decide +kernel
theorem dX11_has_67 : decode cX11_has 67 = .ok (.bipush 9, 2) := by decide +kernel
theorem dX11_has_69 : decode cX11_has 69 = .ok (.if_icmp .ge 15, 3) := by decide +kernel
theorem dX11_has_72 : decode cX11_has 72 = .ok (.aload_n 0, 1) := by decide +kernel
theorem dX11_has_73 : decode cX11_has 73 = .ok (.getfield 39, 3) := by decide +kernel
theorem dX11_has_76 : decode cX11_has 76 = .ok (.iload_n 3, 1) := by decide +kernel
theorem dX11_has_77 : decode cX11_has 77 = .ok (.iconst 1, 1) := by decide +kernel
theorem dX11_has_78 : decode cX11_has 78 = .ok (.iadd, 1) := by decide +kernel
theorem dX11_has_79 : decode cX11_has 79 = .ok (.dup2, 1) := by decide +kernel
theorem dX11_has_80 : decode cX11_has 80 = .ok (.iaload, 1) := by decide +kernel
theorem dX11_has_81 : decode cX11_has 81 = .ok (.iconst 1, 1) := by decide +kernel
theorem dX11_has_82 : decode cX11_has 82 = .ok (.iadd, 1) := by decide +kernel
theorem dX11_has_83 : decode cX11_has 83 = .ok (.iastore, 1) := by decide +kernel
theorem dX11_has_84 : decode cX11_has 84 = .ok (.return_, 1) := by decide +kernel
theorem dX11_homeFrom_0 : decode cX11_homeFrom 0 = .ok (.aload_n 0, 1) := by decide +kernel
theorem dX11_homeFrom_1 : decode cX11_homeFrom 1 = .ok (.iload_n 2, 1) := by decide +kernel
theorem dX11_homeFrom_2 : decode cX11_homeFrom 2 = .ok (.aload_n 0, 1) := by decide +kernel
theorem dX11_homeFrom_3 : decode cX11_homeFrom 3 = .ok (.getfield 39, 3) := by decide +kernel
theorem dX11_homeFrom_6 : decode cX11_homeFrom 6 = .ok (.bipush 56, 2) := by decide +kernel
theorem dX11_homeFrom_8 : decode cX11_homeFrom 8 = .ok (.iload_n 1, 1) := by decide +kernel
theorem dX11_homeFrom_9 : decode cX11_homeFrom 9 = .ok (.iadd, 1) := by decide +kernel
theorem dX11_homeFrom_10 : decode cX11_homeFrom 10 = .ok (.iaload, 1) := by decide +kernel
theorem dX11_homeFrom_11 : decode cX11_homeFrom 11 = .ok (.iconst 0, 1) := by decide +kernel
theorem dX11_homeFrom_12 : decode cX11_homeFrom 12 = .ok (.invokevirtual 304, 3) := by decide +kernel
theorem dX11_homeFrom_15 : decode cX11_homeFrom 15 = .ok (.ireturn, 1) := by decide +kernel
theorem dX11_homewards_0 : decode cX11_homewards 0 = .ok (.aload_n 0, 1) := by decide +kernel
theorem dX11_homewards_1 : decode cX11_homewards 1 = .ok (.iload_n 1, 1) := by decide +kernel
theorem dX11_homewards_2 : decode cX11_homewards 2 = .ok (.invokevirtual 291, 3) := by decide +kernel
theorem dX11_homewards_5 : decode cX11_homewards 5 = .ok (.istore_n 2, 1) := by decide +kernel
theorem dX11_homewards_6 : decode cX11_homewards 6 = .ok (.aload_n 0, 1) := by decide +kernel
theorem dX11_homewards_7 : decode cX11_homewards 7 = .ok (.iload_n 1, 1) := by decide +kernel
theorem dX11_homewards_8 : decode cX11_homewards 8 = .ok (.iload_n 2, 1) := by decide +kernel
theorem dX11_homewards_9 : decode cX11_homewards 9 = .ok (.invokevirtual 333, 3) := by decide +kernel
theorem dX11_homewards_12 : decode cX11_homewards 12 = .ok (.istore_n 3, 1) := by decide +kernel
theorem dX11_homewards_13 : decode cX11_homewards 13 = .ok (.iload_n 3, 1) := by decide +kernel
theorem dX11_homewards_14 : decode cX11_homewards 14 = .ok (.bipush 99, 2) := by decide +kernel
theorem dX11_homewards_16 : decode cX11_homewards 16 = .ok (.if_icmp .ne 5, 3) := by decide +kernel
theorem dX11_homewards_19 : decode cX11_homewards 19 = .ok (.iload_n 2, 1) := by decide +kernel
theorem dX11_homewards_20 : decode cX11_homewards 20 = .ok (.ireturn, 1) := by decide +kernel
theorem dX11_homewards_21 : decode cX11_homewards 21 = .ok (.iconst 0, 1) := by decide +kernel
theorem dX11_homewards_22 : decode cX11_homewards 22 = .ok (.istore 4, 2) := by decide +kernel
theorem dX11_homewards_24 : decode cX11_homewards 24 = .ok (.iload 4, 2) := by decide +kernel
theorem dX11_homewards_26 : decode cX11_homewards 26 = .ok (.aload_n 0, 1) := by decide +kernel
theorem dX11_homewards_27 : decode cX11_homewards 27 = .ok (.getfield 39, 3) := by decide +kernel
theorem dX11_homewards_30 : decode cX11_homewards 30 = .ok (.iconst 1, 1) := by decide +kernel
theorem dX11_homewards_31 : decode cX11_homewards 31 = .ok (.iaload, 1) := by decide +kernel
theorem dX11_homewards_32 : decode cX11_homewards 32 = .ok (.if_icmp .ge 42, 3) := by decide +kernel
theorem dX11_homewards_35 : decode cX11_homewards 35 = .ok (.aload_n 0, 1) := by decide +kernel
theorem dX11_homewards_36 : decode cX11_homewards 36 = .ok (.getfield 39, 3) := by decide +kernel
theorem dX11_homewards_39 : decode cX11_homewards 39 = .ok (.bipush 88, 2) := by decide +kernel
theorem dX11_homewards_41 : decode cX11_homewards 41 = .ok (.iload_n 2, 1) := by decide +kernel
theorem dX11_homewards_42 : decode cX11_homewards 42 = .ok (.iadd, 1) := by decide +kernel
theorem dX11_homewards_43 : decode cX11_homewards 43 = .ok (.iaload, 1) := by decide +kernel
theorem dX11_homewards_44 : decode cX11_homewards 44 = .ok (.iload 4, 2) := by decide +kernel
theorem dX11_homewards_46 : decode cX11_homewards 46 = .ok (.invokestatic 297, 3) := by decide +kernel
theorem dX11_homewards_49 : decode cX11_homewards 49 = .ok (.ifCond .eq 19, 3) := by decide +kernel
theorem dX11_homewards_52 : decode cX11_homewards 52 = .ok (.aload_n 0, 1) := by decide +kernel
theorem dX11_homewards_53 : decode cX11_homewards 53 = .ok (.iload_n 1, 1) := by decide +kernel
theorem dX11_homewards_54 : decode cX11_homewards 54 = .ok (.iload 4, 2) := by decide +kernel
theorem dX11_homewards_56 : decode cX11_homewards 56 = .ok (.invokevirtual 333, 3) := by decide +kernel
theorem dX11_homewards_59 : decode cX11_homewards 59 = .ok (.iload_n 3, 1) := by decide +kernel
theorem dX11_homewards_60 : decode cX11_homewards 60 = .ok (.iconst 1, 1) := by decide +kernel
theorem dX11_homewards_61 : decode cX11_homewards 61 = .ok (.isub, 1) := by decide +kernel
theorem dX11_homewards_62 : decode cX11_homewards 62 = .ok (.if_icmp .ne 6, 3) := by decide +kernel
theorem dX11_homewards_65 : decode cX11_homewards 65 = .ok (.iload 4, 2) := by decide +kernel
theorem dX11_homewards_67 : decode cX11_homewards 67 = .ok (.ireturn, 1) := by decide +kernel
theorem dX11_homewards_68 : decode cX11_homewards 68 = .ok (.iinc 4 1, 3) := by decide +kernel
theorem dX11_homewards_71 : decode cX11_homewards 71 = .ok (.goto (-47), 3) := by decide +kernel
theorem dX11_homewards_74 : decode cX11_homewards 74 = .ok (.iload_n 2, 1) := by decide +kernel
theorem dX11_homewards_75 : decode cX11_homewards 75 = .ok (.ireturn, 1) := by decide +kernel
theorem dX11_lure_0 : decode cX11_lure 0 = .ok (.aload_n 0, 1) := by decide +kernel
theorem dX11_lure_1 : decode cX11_lure 1 = .ok (.iload_n 1, 1) := by decide +kernel
theorem dX11_lure_2 : decode cX11_lure 2 = .ok (.invokevirtual 285, 3) := by decide +kernel
theorem dX11_lure_5 : decode cX11_lure 5 = .ok (.ifCond .ne 5, 3) := by decide +kernel
theorem dX11_lure_8 : decode cX11_lure 8 = .ok (.iconst (-1), 1) := by decide +kernel
theorem dX11_lure_9 : decode cX11_lure 9 = .ok (.ireturn, 1) := by decide +kernel
theorem dX11_lure_10 : decode cX11_lure 10 = .ok (.iload_n 2, 1) := by decide +kernel
theorem dX11_lure_11 : decode cX11_lure 11 = .ok (.tableswitch 79 0 4 #[33, 39, 45, 55, 65], 33) := by decide +kernel
theorem dX11_lure_44 : decode cX11_lure 44 = .ok (.aload_n 0, 1) := by decide +kernel
theorem dX11_lure_45 : decode cX11_lure 45 = .ok (.iload_n 1, 1) := by decide +kernel
theorem dX11_lure_46 : decode cX11_lure 46 = .ok (.invokevirtual 311, 3) := by decide +kernel
theorem dX11_lure_49 : decode cX11_lure 49 = .ok (.ireturn, 1) := by decide +kernel
theorem dX11_lure_50 : decode cX11_lure 50 = .ok (.aload_n 0, 1) := by decide +kernel
theorem dX11_lure_51 : decode cX11_lure 51 = .ok (.iload_n 1, 1) := by decide +kernel
theorem dX11_lure_52 : decode cX11_lure 52 = .ok (.invokevirtual 314, 3) := by decide +kernel
theorem dX11_lure_55 : decode cX11_lure 55 = .ok (.ireturn, 1) := by decide +kernel
theorem dX11_lure_56 : decode cX11_lure 56 = .ok (.aload_n 0, 1) := by decide +kernel
theorem dX11_lure_57 : decode cX11_lure 57 = .ok (.getfield 39, 3) := by decide +kernel
theorem dX11_lure_60 : decode cX11_lure 60 = .ok (.bipush 44, 2) := by decide +kernel
theorem dX11_lure_62 : decode cX11_lure 62 = .ok (.iload_n 1, 1) := by decide +kernel
theorem dX11_lure_63 : decode cX11_lure 63 = .ok (.iadd, 1) := by decide +kernel
theorem dX11_lure_64 : decode cX11_lure 64 = .ok (.iaload, 1) := by decide +kernel
theorem dX11_lure_65 : decode cX11_lure 65 = .ok (.ireturn, 1) := by decide +kernel
theorem dX11_lure_66 : decode cX11_lure 66 = .ok (.aload_n 0, 1) := by decide +kernel
theorem dX11_lure_67 : decode cX11_lure 67 = .ok (.getfield 39, 3) := by decide +kernel
theorem dX11_lure_70 : decode cX11_lure 70 = .ok (.bipush 50, 2) := by decide +kernel
theorem dX11_lure_72 : decode cX11_lure 72 = .ok (.iload_n 1, 1) := by decide +kernel
theorem dX11_lure_73 : decode cX11_lure 73 = .ok (.iadd, 1) := by decide +kernel
theorem dX11_lure_74 : decode cX11_lure 74 = .ok (.iaload, 1) := by decide +kernel
theorem dX11_lure_75 : decode cX11_lure 75 = .ok (.ireturn, 1) := by decide +kernel
theorem dX11_lure_76 : decode cX11_lure 76 = .ok (.aload_n 0, 1) := by decide +kernel
theorem dX11_lure_77 : decode cX11_lure 77 = .ok (.getfield 39, 3) := by decide +kernel
theorem dX11_lure_80 : decode cX11_lure 80 = .ok (.bipush 11, 2) := by decide +kernel
theorem dX11_lure_82 : decode cX11_lure 82 = .ok (.iconst 3, 1) := by decide +kernel
theorem dX11_lure_83 : decode cX11_lure 83 = .ok (.iload_n 1, 1) := by decide +kernel
theorem dX11_lure_84 : decode cX11_lure 84 = .ok (.imul, 1) := by decide +kernel
theorem dX11_lure_85 : decode cX11_lure 85 = .ok (.iadd, 1) := by decide +kernel
theorem dX11_lure_86 : decode cX11_lure 86 = .ok (.iconst 2, 1) := by decide +kernel
theorem dX11_lure_87 : decode cX11_lure 87 = .ok (.iadd, 1) := by decide +kernel
theorem dX11_lure_88 : decode cX11_lure 88 = .ok (.iaload, 1) := by decide +kernel
theorem dX11_lure_89 : decode cX11_lure 89 = .ok (.ireturn, 1) := by decide +kernel
theorem dX11_lure_90 : decode cX11_lure 90 = .ok (.iconst (-1), 1) := by decide +kernel
theorem dX11_lure_91 : decode cX11_lure 91 = .ok (.ireturn, 1) := by decide +kernel
theorem dX11_lureFor_0 : decode cX11_lureFor 0 = .ok (.iconst 0, 1) := by decide +kernel
theorem dX11_lureFor_1 : decode cX11_lureFor 1 = .ok (.istore_n 2, 1) := by decide +kernel
theorem dX11_lureFor_2 : decode cX11_lureFor 2 = .ok (.iload_n 2, 1) := by decide +kernel
theorem dX11_lureFor_3 : decode cX11_lureFor 3 = .ok (.aload_n 0, 1) := by decide +kernel
theorem dX11_lureFor_4 : decode cX11_lureFor 4 = .ok (.getfield 39, 3) := by decide +kernel
theorem dX11_lureFor_7 : decode cX11_lureFor 7 = .ok (.iconst 3, 1) := by decide +kernel
theorem dX11_lureFor_8 : decode cX11_lureFor 8 = .ok (.iaload, 1) := by decide +kernel
theorem dX11_lureFor_9 : decode cX11_lureFor 9 = .ok (.if_icmp .ge 41, 3) := by decide +kernel
theorem dX11_lureFor_12 : decode cX11_lureFor 12 = .ok (.aload_n 0, 1) := by decide +kernel
theorem dX11_lureFor_13 : decode cX11_lureFor 13 = .ok (.iload_n 2, 1) := by decide +kernel
theorem dX11_lureFor_14 : decode cX11_lureFor 14 = .ok (.invokevirtual 288, 3) := by decide +kernel
theorem dX11_lureFor_17 : decode cX11_lureFor 17 = .ok (.ifCond .eq 27, 3) := by decide +kernel
theorem dX11_lureFor_20 : decode cX11_lureFor 20 = .ok (.aload_n 0, 1) := by decide +kernel
theorem dX11_lureFor_21 : decode cX11_lureFor 21 = .ok (.iload_n 2, 1) := by decide +kernel
theorem dX11_lureFor_22 : decode cX11_lureFor 22 = .ok (.invokevirtual 311, 3) := by decide +kernel
theorem dX11_lureFor_25 : decode cX11_lureFor 25 = .ok (.aload_n 0, 1) := by decide +kernel
theorem dX11_lureFor_26 : decode cX11_lureFor 26 = .ok (.iload_n 1, 1) := by decide +kernel
theorem dX11_lureFor_27 : decode cX11_lureFor 27 = .ok (.invokevirtual 291, 3) := by decide +kernel
theorem dX11_lureFor_30 : decode cX11_lureFor 30 = .ok (.if_icmp .ne 14, 3) := by decide +kernel
theorem dX11_lureFor_33 : decode cX11_lureFor 33 = .ok (.aload_n 0, 1) := by decide +kernel
theorem dX11_lureFor_34 : decode cX11_lureFor 34 = .ok (.iload_n 2, 1) := by decide +kernel
theorem dX11_lureFor_35 : decode cX11_lureFor 35 = .ok (.iload_n 1, 1) := by decide +kernel
theorem dX11_lureFor_36 : decode cX11_lureFor 36 = .ok (.invokevirtual 330, 3) := by decide +kernel
theorem dX11_lureFor_39 : decode cX11_lureFor 39 = .ok (.ifCond .eq 5, 3) := by decide +kernel
theorem dX11_lureFor_42 : decode cX11_lureFor 42 = .ok (.iload_n 2, 1) := by decide +kernel
theorem dX11_lureFor_43 : decode cX11_lureFor 43 = .ok (.ireturn, 1) := by decide +kernel
theorem dX11_lureFor_44 : decode cX11_lureFor 44 = .ok (.iinc 2 1, 3) := by decide +kernel
theorem dX11_lureFor_47 : decode cX11_lureFor 47 = .ok (.goto (-45), 3) := by decide +kernel
theorem dX11_lureFor_50 : decode cX11_lureFor 50 = .ok (.iconst (-1), 1) := by decide +kernel
theorem dX11_lureFor_51 : decode cX11_lureFor 51 = .ok (.ireturn, 1) := by decide +kernel
theorem dX11_walker_0 : decode cX11_walker 0 = .ok (.aload_n 0, 1) := by decide +kernel
theorem dX11_walker_1 : decode cX11_walker 1 = .ok (.iload_n 1, 1) := by decide +kernel
theorem dX11_walker_2 : decode cX11_walker 2 = .ok (.invokevirtual 317, 3) := by decide +kernel
theorem dX11_walker_5 : decode cX11_walker 5 = .ok (.ifCond .ne 5, 3) := by decide +kernel
theorem dX11_walker_8 : decode cX11_walker 8 = .ok (.iconst (-1), 1) := by decide +kernel
theorem dX11_walker_9 : decode cX11_walker 9 = .ok (.ireturn, 1) := by decide +kernel
theorem dX11_walker_10 : decode cX11_walker 10 = .ok (.iload_n 2, 1) := by decide +kernel
theorem dX11_walker_11 : decode cX11_walker 11 = .ok (.tableswitch 71 0 4 #[33, 39, 49, 59, 65], 33) := by decide +kernel
theorem dX11_walker_44 : decode cX11_walker 44 = .ok (.aload_n 0, 1) := by decide +kernel
theorem dX11_walker_45 : decode cX11_walker 45 = .ok (.iload_n 1, 1) := by decide +kernel
theorem dX11_walker_46 : decode cX11_walker 46 = .ok (.invokevirtual 291, 3) := by decide +kernel
theorem dX11_walker_49 : decode cX11_walker 49 = .ok (.ireturn, 1) := by decide +kernel
theorem dX11_walker_50 : decode cX11_walker 50 = .ok (.aload_n 0, 1) := by decide +kernel
theorem dX11_walker_51 : decode cX11_walker 51 = .ok (.getfield 39, 3) := by decide +kernel
theorem dX11_walker_54 : decode cX11_walker 54 = .ok (.bipush 56, 2) := by decide +kernel
theorem dX11_walker_56 : decode cX11_walker 56 = .ok (.iload_n 1, 1) := by decide +kernel
theorem dX11_walker_57 : decode cX11_walker 57 = .ok (.iadd, 1) := by decide +kernel
theorem dX11_walker_58 : decode cX11_walker 58 = .ok (.iaload, 1) := by decide +kernel
theorem dX11_walker_59 : decode cX11_walker 59 = .ok (.ireturn, 1) := by decide +kernel
theorem dX11_walker_60 : decode cX11_walker 60 = .ok (.aload_n 0, 1) := by decide +kernel
theorem dX11_walker_61 : decode cX11_walker 61 = .ok (.getfield 39, 3) := by decide +kernel
theorem dX11_walker_64 : decode cX11_walker 64 = .ok (.bipush 61, 2) := by decide +kernel
theorem dX11_walker_66 : decode cX11_walker 66 = .ok (.iload_n 1, 1) := by decide +kernel
theorem dX11_walker_67 : decode cX11_walker 67 = .ok (.iadd, 1) := by decide +kernel
theorem dX11_walker_68 : decode cX11_walker 68 = .ok (.iaload, 1) := by decide +kernel
theorem dX11_walker_69 : decode cX11_walker 69 = .ok (.ireturn, 1) := by decide +kernel
theorem dX11_walker_70 : decode cX11_walker 70 = .ok (.aload_n 0, 1) := by decide +kernel
theorem dX11_walker_71 : decode cX11_walker 71 = .ok (.iload_n 1, 1) := by decide +kernel
theorem dX11_walker_72 : decode cX11_walker 72 = .ok (.invokevirtual 320, 3) := by decide +kernel
theorem dX11_walker_75 : decode cX11_walker 75 = .ok (.ireturn, 1) := by decide +kernel
theorem dX11_walker_76 : decode cX11_walker 76 = .ok (.aload_n 0, 1) := by decide +kernel
theorem dX11_walker_77 : decode cX11_walker 77 = .ok (.iload_n 1, 1) := by decide +kernel
theorem dX11_walker_78 : decode cX11_walker 78 = .ok (.invokevirtual 294, 3) := by decide +kernel
theorem dX11_walker_81 : decode cX11_walker 81 = .ok (.ireturn, 1) := by decide +kernel
theorem dX11_walker_82 : decode cX11_walker 82 = .ok (.iconst (-1), 1) := by decide +kernel
theorem dX11_walker_83 : decode cX11_walker 83 = .ok (.ireturn, 1) := by decide +kernel
theorem dX11_ways_0 : decode cX11_ways 0 = .ok (.aload_n 0, 1) := by decide +kernel
theorem dX11_ways_1 : decode cX11_ways 1 = .ok (.iload_n 1, 1) := by decide +kernel
theorem dX11_ways_2 : decode cX11_ways 2 = .ok (.invokevirtual 323, 3) := by decide +kernel
theorem dX11_ways_5 : decode cX11_ways 5 = .ok (.ifCond .eq 15, 3) := by decide +kernel
theorem dX11_ways_8 : decode cX11_ways 8 = .ok (.aload_n 0, 1) := by decide +kernel
theorem dX11_ways_9 : decode cX11_ways 9 = .ok (.getfield 39, 3) := by decide +kernel
theorem dX11_ways_12 : decode cX11_ways 12 = .ok (.bipush 88, 2) := by decide +kernel
theorem dX11_ways_14 : decode cX11_ways 14 = .ok (.iload_n 1, 1) := by decide +kernel
theorem dX11_ways_15 : decode cX11_ways 15 = .ok (.iadd, 1) := by decide +kernel
theorem dX11_ways_16 : decode cX11_ways 16 = .ok (.iaload, 1) := by decide +kernel
theorem dX11_ways_17 : decode cX11_ways 17 = .ok (.goto 4, 3) := by decide +kernel
theorem dX11_ways_20 : decode cX11_ways 20 = .ok (.iconst (-1), 1) := by decide +kernel
theorem dX11_ways_21 : decode cX11_ways 21 = .ok (.ireturn, 1) := by decide +kernel
theorem hd_X11_homeFrom : yX11_homeFrom.cls ≠ "java/lang/invoke/MethodHandle" ∧ yX11_homeFrom.cls ≠ "java/lang/invoke/VarHandle" ∧ (parseMethodDescriptor yX11_homeFrom.desc).map (fun d => d.parameters.length) = some 2 := ⟨by decide +kernel, by decide +kernel, by decide +kernel⟩
theorem hd_X11_isCorner : yX11_isCorner.cls ≠ "java/lang/invoke/MethodHandle" ∧ yX11_isCorner.cls ≠ "java/lang/invoke/VarHandle" ∧ (parseMethodDescriptor yX11_isCorner.desc).map (fun d => d.parameters.length) = some 1 := ⟨by decide +kernel, by decide +kernel, by decide +kernel⟩
theorem hd_X11_isRule : yX11_isRule.cls ≠ "java/lang/invoke/MethodHandle" ∧ yX11_isRule.cls ≠ "java/lang/invoke/VarHandle" ∧ (parseMethodDescriptor yX11_isRule.desc).map (fun d => d.parameters.length) = some 1 := ⟨by decide +kernel, by decide +kernel, by decide +kernel⟩
theorem hd_X11_isWalker : yX11_isWalker.cls ≠ "java/lang/invoke/MethodHandle" ∧ yX11_isWalker.cls ≠ "java/lang/invoke/VarHandle" ∧ (parseMethodDescriptor yX11_isWalker.desc).map (fun d => d.parameters.length) = some 1 := ⟨by decide +kernel, by decide +kernel, by decide +kernel⟩
theorem hd_X11_lureAt : yX11_lureAt.cls ≠ "java/lang/invoke/MethodHandle" ∧ yX11_lureAt.cls ≠ "java/lang/invoke/VarHandle" ∧ (parseMethodDescriptor yX11_lureAt.desc).map (fun d => d.parameters.length) = some 1 := ⟨by decide +kernel, by decide +kernel, by decide +kernel⟩
theorem hd_X11_waysBut : yX11_waysBut.cls ≠ "java/lang/invoke/MethodHandle" ∧ yX11_waysBut.cls ≠ "java/lang/invoke/VarHandle" ∧ (parseMethodDescriptor yX11_waysBut.desc).map (fun d => d.parameters.length) = some 3 := ⟨by decide +kernel, by decide +kernel, by decide +kernel⟩
theorem hd_X11_wouldHave : yX11_wouldHave.cls ≠ "java/lang/invoke/MethodHandle" ∧ yX11_wouldHave.cls ≠ "java/lang/invoke/VarHandle" ∧ (parseMethodDescriptor yX11_wouldHave.desc).map (fun d => d.parameters.length) = some 2 := ⟨by decide +kernel, by decide +kernel, by decide +kernel⟩
set_option maxHeartbeats 4000000 in
set_option maxRecDepth 100000 in
theorem v_homeFrom (l : Launch) (D : va_G) (K : Nat → ClassId) (ad : Nat → Nat) (z : TS) (o : Ok z) (x1 : Int32) (bx1 : iv 0 4 x1) (x2 : Int32) : cI l yX11_homeFrom cX11_homeFrom 3 .int ({ frames := 3, cells := 0, slots := 0, locals := 70 }) D K ad z [.ref (ad 386), .int x1, .int x2] (fun r u => u = z ∧ iv 0 99 r) := by
  refine t_enterI (by decide) (Nat.le_of_ble_eq_true rfl) rfl rfl ?_
  intro p e s m args below meth c A R Q H locs ls E hfr hlo RET G hl
  have E : mE p s m meth c cX11_homeFrom args 3 RX11 D K A := E
  have hl : lv_has ls 3 [(0, .ref (ad 386)), (1, .int x1), (2, .int x2)] := hl
  refine lv_aload_n E.1 E.2.1 dX11_homeFrom_0 rfl (lv_at hl 0 rfl) ?_
  refine lv_iload_n E.1 E.2.1 dX11_homeFrom_1 rfl (lv_at hl 2 rfl) ?_
  refine lv_aload_n E.1 E.2.1 dX11_homeFrom_2 rfl (lv_at hl 0 rfl) ?_
  refine t_get E G 11 20 (rfl : ro 386 = 11) (C := RX11) (T := TX11) (N := 37) rfl (by decide) (by decide) (by decide) mw_fl_11_39 (v := .ref (ad 396)) (fvl_o (n := 10) rfl) dX11_homeFrom_3 ?_
  refine lv_bipush (v := 56) E.1 E.2.1 dX11_homeFrom_6 (by decide) ?_
  refine lv_iload_n E.1 E.2.1 dX11_homeFrom_8 rfl (lv_at hl 1 rfl) ?_
  refine lv_iadd E.1 E.2.1 dX11_homeFrom_9 ?_
  refine lv_topi (fun v1 e2 => ?_)
  have b3 : iv 56 60 v1 := by rw [e2]; exact iv_add (iv_lit (lo := 56) (hi := 56) 56 (by decide) (by decide)) bx1 (by decide) (by decide) (by decide) (by decide)
  have l4 : v1.toInt = 56 + 1 * x1.toInt := (show v1.toInt = 56 + x1.toInt by rw [e2]; exact ti_cadd 56 (by decide) bx1 (by decide) (by decide)).trans (by omega)
  refine t_iald E G 54 (rfl : ro 396 = 54) (by decide) (by decide) rfl (n := 127) rfl (iv_vp b3 (by decide) (by decide)) dX11_homeFrom_10 ?_
  refine lv_topi (fun v5 e6 => ?_)
  have b7 : iv 0 7 v5 := by rw [e6]; exact rd1 o 54 (rfl : ro 396 = 54) 56 1 0 4 bx1 (l4.trans (by omega)) (by decide +kernel)
  refine lv_iconst (v := 0) E.1 E.2.1 dX11_homeFrom_11 (by decide) ?_
  refine t_vi E G hl (v_waysBut l D K ad z o x2 v5 (0 : Int32)) 11 (rfl : ro 386 = 11) (by decide) rfl rfl 3 rfl mw_code_X11_waysBut mw_ini_11 mw_ml_11_304 mw_inst_X11_waysBut mw_sel_X11_waysBut hd_X11_waysBut ⟨Nat.le_trans (by decide) hfr, Nat.le_trans (by decide) hlo⟩ rfl rfl rfl (Nat.le_of_ble_eq_true rfl) dX11_homeFrom_12 (fun r9 zz8 H locs hp10 G => ?_)
  obtain ⟨hz12, b11⟩ := hp10
  rw [hz12] at G
  exact RET G ⟨rfl, (iv_mono b11 (by decide) (by decide))⟩ rfl dX11_homeFrom_15
set_option maxHeartbeats 4000000 in
set_option maxRecDepth 100000 in
theorem v_force (l : Launch) (D : va_G) (K : Nat → ClassId) (ad : Nat → Nat) (z : TS) (o : Ok z) (x1 : Int32) : cI l yX11_force cX11_force 3 .int ({ frames := 1, cells := 0, slots := 0, locals := 21 }) D K ad z [.ref (ad 386), .int x1] (fun r u => Ok u ∧ KM z u) := by
  refine t_enterI (by decide) (Nat.le_of_ble_eq_true rfl) rfl rfl ?_
  intro p e s m args below meth c A R Q H locs ls E hfr hlo RET G hl
  have E : mE p s m meth c cX11_force args 3 RX11 D K A := E
  have hl : lv_has ls 3 [(0, .ref (ad 386)), (1, .int x1)] := hl
  refine lv_iload_n E.1 E.2.1 dX11_force_0 rfl (lv_at hl 1 rfl) ?_
  refine lv_iconst (v := (-1)) E.1 E.2.1 dX11_force_1 (by decide) ?_
  refine lv_icmp_eq (tgt := 16) E.1 E.2.1 dX11_force_2 (by decide) (fun c1 => ?_) (fun c1 => ?_)
  · skip
    have b2 : iv (-1) (-1) x1 := iv_eq c1 (iv_lit (lo := (-1)) (hi := (-1)) (-1) (by decide) (by decide))
    refine lv_aload_n E.1 E.2.1 dX11_force_16 rfl (lv_at hl 0 rfl) ?_
    refine t_get E G 11 21 (rfl : ro 386 = 11) (C := RX11) (T := TX11) (N := 37) rfl (by decide) (by decide) (by decide) mw_fl_11_42 (fvl_i rfl) dX11_force_17 ?_
    refine lv_topi (fun v3 e4 => ?_)
    have b5 : iv (-1) 5 v3 := by rw [e4]; exact o.i 11 21 (rfl : ro 386 = 11)
    refine lv_istore_n (lv' := [(2, .int v3), (0, .ref (ad 386)), (1, .int x1)]) E.1 E.2.1 dX11_force_20 rfl hl (by decide) rfl (fun ls hl => ?_)
    refine lv_aload_n E.1 E.2.1 dX11_force_21 rfl (lv_at hl 1 rfl) ?_
    refine lv_iload_n E.1 E.2.1 dX11_force_22 rfl (lv_at hl 2 rfl) ?_
    refine t_puti E G 11 21 (rfl : ro 386 = 11) (C := RX11) (T := TX11) (N := 37) rfl (by decide) (by decide) (by decide) rfl rfl mw_fl_11_42 rfl dX11_force_23 (fun H locs G => ?_)
    obtain ⟨zz6, G, oo7, kk8, h9⟩ : ∃ u : TS, mG D A s H locs (wd K ad u) ∧ Ok u ∧ KM z u ∧ tI u 386 21 = x1 := ⟨_, G, ok_i o 11 (rfl : ro 386 = 11) (iv_mono b2 (by decide) (by decide)) (by decide), KF.tr KF.rf (KF_i 11 (rfl : ro 386 = 11) (by decide)), sI_self⟩
    refine lv_iload_n E.1 E.2.1 dX11_force_26 rfl (lv_at hl 0 rfl) ?_
    exact RET G ⟨oo7, kk8⟩ rfl dX11_force_27
  · skip
    refine lv_aload_n E.1 E.2.1 dX11_force_5 rfl (lv_at hl 0 rfl) ?_
    refine lv_iload_n E.1 E.2.1 dX11_force_6 rfl (lv_at hl 1 rfl) ?_
    refine t_vi E G hl (v_isRule l D K ad z o x1) 11 (rfl : ro 386 = 11) (by decide) rfl rfl 1 rfl mw_code_X11_isRule mw_ini_11 mw_ml_11_308 mw_inst_X11_isRule mw_sel_X11_isRule hd_X11_isRule ⟨Nat.le_trans (by decide) hfr, Nat.le_trans (by decide) hlo⟩ rfl rfl rfl (Nat.le_of_ble_eq_true rfl) dX11_force_7 (fun r11 zz10 H locs hp12 G => ?_)
    obtain ⟨hz15, b13, h14⟩ := hp12
    rw [hz15] at G
    refine lv_if_ne (tgt := 16) E.1 E.2.1 dX11_force_10 (by decide) (fun c16 => ?_) (fun c16 => ?_)
    · skip
      have b17 : iv 1 1 r11 := ne_lo c16 b13 (by decide) (by decide)
      have b18 : iv 0 5 x1 := h14 c16
      refine lv_aload_n E.1 E.2.1 dX11_force_16 rfl (lv_at hl 0 rfl) ?_
      refine t_get E G 11 21 (rfl : ro 386 = 11) (C := RX11) (T := TX11) (N := 37) rfl (by decide) (by decide) (by decide) mw_fl_11_42 (fvl_i rfl) dX11_force_17 ?_
      refine lv_topi (fun v19 e20 => ?_)
      have b21 : iv (-1) 5 v19 := by rw [e20]; exact o.i 11 21 (rfl : ro 386 = 11)
      refine lv_istore_n (lv' := [(2, .int v19), (0, .ref (ad 386)), (1, .int x1)]) E.1 E.2.1 dX11_force_20 rfl hl (by decide) rfl (fun ls hl => ?_)
      refine lv_aload_n E.1 E.2.1 dX11_force_21 rfl (lv_at hl 1 rfl) ?_
      refine lv_iload_n E.1 E.2.1 dX11_force_22 rfl (lv_at hl 2 rfl) ?_
      refine t_puti E G 11 21 (rfl : ro 386 = 11) (C := RX11) (T := TX11) (N := 37) rfl (by decide) (by decide) (by decide) rfl rfl mw_fl_11_42 rfl dX11_force_23 (fun H locs G => ?_)
      obtain ⟨zz22, G, oo23, kk24, h25⟩ : ∃ u : TS, mG D A s H locs (wd K ad u) ∧ Ok u ∧ KM z u ∧ tI u 386 21 = x1 := ⟨_, G, ok_i o 11 (rfl : ro 386 = 11) (iv_mono b18 (by decide) (by decide)) (by decide), KF.tr KF.rf (KF_i 11 (rfl : ro 386 = 11) (by decide)), sI_self⟩
      refine lv_iload_n E.1 E.2.1 dX11_force_26 rfl (lv_at hl 0 rfl) ?_
      exact RET G ⟨oo23, kk24⟩ rfl dX11_force_27
    · skip
      have b26 : iv 0 0 r11 := iv_eq c16 (iv_lit (lo := 0) (hi := 0) 0 (by decide) (by decide))
      refine lv_bipush (v := (-2)) E.1 E.2.1 dX11_force_13 (by decide) ?_
      exact RET G ⟨o, KF.rf⟩ rfl dX11_force_15
set_option maxHeartbeats 4000000 in
set_option maxRecDepth 100000 in
theorem v_lure (l : Launch) (D : va_G) (K : Nat → ClassId) (ad : Nat → Nat) (z : TS) (o : Ok z) (x1 : Int32) (x2 : Int32) : cI l yX11_lure cX11_lure 3 .int ({ frames := 1, cells := 0, slots := 0, locals := 21 }) D K ad z [.ref (ad 386), .int x1, .int x2] (fun r u => u = z) := by
  refine t_enterI (by decide) (Nat.le_of_ble_eq_true rfl) rfl rfl ?_
  intro p e s m args below meth c A R Q H locs ls E hfr hlo RET G hl
  have E : mE p s m meth c cX11_lure args 3 RX11 D K A := E
  have hl : lv_has ls 3 [(0, .ref (ad 386)), (1, .int x1), (2, .int x2)] := hl
  refine lv_aload_n E.1 E.2.1 dX11_lure_0 rfl (lv_at hl 0 rfl) ?_
  refine lv_iload_n E.1 E.2.1 dX11_lure_1 rfl (lv_at hl 1 rfl) ?_
  refine t_vi E G hl (v_isLure l D K ad z o x1) 11 (rfl : ro 386 = 11) (by decide) rfl rfl 1 rfl mw_code_X11_isLure mw_ini_11 mw_ml_11_285 mw_inst_X11_isLure mw_sel_X11_isLure hd_X11_isLure ⟨Nat.le_trans (by decide) hfr, Nat.le_trans (by decide) hlo⟩ rfl rfl rfl (Nat.le_of_ble_eq_true rfl) dX11_lure_2 (fun r2 zz1 H locs hp3 G => ?_)
  obtain ⟨hz6, b4, h5⟩ := hp3
  rw [hz6] at G
  refine lv_if_ne (tgt := 10) E.1 E.2.1 dX11_lure_5 (by decide) (fun c7 => ?_) (fun c7 => ?_)
  · skip
    have b8 : iv 1 1 r2 := ne_lo c7 b4 (by decide) (by decide)
    have b9 : iv 0 5 x1 := h5 c7
    refine lv_iload_n E.1 E.2.1 dX11_lure_10 rfl (lv_at hl 2 rfl) ?_
    rcases Decidable.em (x2.toInt < 0 ∨ 4 < x2.toInt) with c10 | c10
    · refine lv_tableOut (tgt := 90) E.1 E.2.1 dX11_lure_11 c10 (by decide) ?_
      refine lv_iconst (v := (-1)) E.1 E.2.1 dX11_lure_90 (by decide) ?_
      exact RET G rfl rfl dX11_lure_91
    · rcases sw_0_4 x2 (fun h => c10 (Or.inl h)) (fun h => c10 (Or.inr h)) with ee0 | ee1 | ee2 | ee3 | ee4
      · refine lv_tableIn (off := 33) (tgt := 44) E.1 E.2.1 dX11_lure_11 (by rw [ee0]; decide) (by rw [ee0]; decide) (by rw [ee0]; decide) (by decide) ?_
        refine lv_aload_n E.1 E.2.1 dX11_lure_44 rfl (lv_at hl 0 rfl) ?_
        refine lv_iload_n E.1 E.2.1 dX11_lure_45 rfl (lv_at hl 1 rfl) ?_
        refine t_vi E G hl (v_lureAt l D K ad z o x1 (iv_mono b9 (by decide) (by decide))) 11 (rfl : ro 386 = 11) (by decide) rfl rfl 1 rfl mw_code_X11_lureAt mw_ini_11 mw_ml_11_311 mw_inst_X11_lureAt mw_sel_X11_lureAt hd_X11_lureAt ⟨Nat.le_trans (by decide) hfr, Nat.le_trans (by decide) hlo⟩ rfl rfl rfl (Nat.le_of_ble_eq_true rfl) dX11_lure_46 (fun r13 zz12 H locs hp14 G => ?_)
        have hz15 := hp14
        rw [hz15] at G
        exact RET G rfl rfl dX11_lure_49
      · refine lv_tableIn (off := 39) (tgt := 50) E.1 E.2.1 dX11_lure_11 (by rw [ee1]; decide) (by rw [ee1]; decide) (by rw [ee1]; decide) (by decide) ?_
        refine lv_aload_n E.1 E.2.1 dX11_lure_50 rfl (lv_at hl 0 rfl) ?_
        refine lv_iload_n E.1 E.2.1 dX11_lure_51 rfl (lv_at hl 1 rfl) ?_
        refine t_vi E G hl (v_kindOf l D K ad z o x1 (iv_mono b9 (by decide) (by decide))) 11 (rfl : ro 386 = 11) (by decide) rfl rfl 1 rfl mw_code_X11_kindOf mw_ini_11 mw_ml_11_314 mw_inst_X11_kindOf mw_sel_X11_kindOf hd_X11_kindOf ⟨Nat.le_trans (by decide) hfr, Nat.le_trans (by decide) hlo⟩ rfl rfl rfl (Nat.le_of_ble_eq_true rfl) dX11_lure_52 (fun r17 zz16 H locs hp18 G => ?_)
        have hz19 := hp18
        rw [hz19] at G
        exact RET G rfl rfl dX11_lure_55
      · refine lv_tableIn (off := 45) (tgt := 56) E.1 E.2.1 dX11_lure_11 (by rw [ee2]; decide) (by rw [ee2]; decide) (by rw [ee2]; decide) (by decide) ?_
        refine lv_aload_n E.1 E.2.1 dX11_lure_56 rfl (lv_at hl 0 rfl) ?_
        refine t_get E G 11 20 (rfl : ro 386 = 11) (C := RX11) (T := TX11) (N := 37) rfl (by decide) (by decide) (by decide) mw_fl_11_39 (v := .ref (ad 396)) (fvl_o (n := 10) rfl) dX11_lure_57 ?_
        refine lv_bipush (v := 44) E.1 E.2.1 dX11_lure_60 (by decide) ?_
        refine lv_iload_n E.1 E.2.1 dX11_lure_62 rfl (lv_at hl 1 rfl) ?_
        refine lv_iadd E.1 E.2.1 dX11_lure_63 ?_
        refine lv_topi (fun v20 e21 => ?_)
        have b22 : iv 44 49 v20 := by rw [e21]; exact iv_add (iv_lit (lo := 44) (hi := 44) 44 (by decide) (by decide)) b9 (by decide) (by decide) (by decide) (by decide)
        have l23 : v20.toInt = 44 + 1 * x1.toInt := (show v20.toInt = 44 + x1.toInt by rw [e21]; exact ti_cadd 44 (by decide) b9 (by decide) (by decide)).trans (by omega)
        refine t_iald E G 54 (rfl : ro 396 = 54) (by decide) (by decide) rfl (n := 127) rfl (iv_vp b22 (by decide) (by decide)) dX11_lure_64 ?_
        refine lv_topi (fun v24 e25 => ?_)
        exact RET G rfl rfl dX11_lure_65
      · refine lv_tableIn (off := 55) (tgt := 66) E.1 E.2.1 dX11_lure_11 (by rw [ee3]; decide) (by rw [ee3]; decide) (by rw [ee3]; decide) (by decide) ?_
        refine lv_aload_n E.1 E.2.1 dX11_lure_66 rfl (lv_at hl 0 rfl) ?_
        refine t_get E G 11 20 (rfl : ro 386 = 11) (C := RX11) (T := TX11) (N := 37) rfl (by decide) (by decide) (by decide) mw_fl_11_39 (v := .ref (ad 396)) (fvl_o (n := 10) rfl) dX11_lure_67 ?_
        refine lv_bipush (v := 50) E.1 E.2.1 dX11_lure_70 (by decide) ?_
        refine lv_iload_n E.1 E.2.1 dX11_lure_72 rfl (lv_at hl 1 rfl) ?_
        refine lv_iadd E.1 E.2.1 dX11_lure_73 ?_
        refine lv_topi (fun v26 e27 => ?_)
        have b28 : iv 50 55 v26 := by rw [e27]; exact iv_add (iv_lit (lo := 50) (hi := 50) 50 (by decide) (by decide)) b9 (by decide) (by decide) (by decide) (by decide)
        have l29 : v26.toInt = 50 + 1 * x1.toInt := (show v26.toInt = 50 + x1.toInt by rw [e27]; exact ti_cadd 50 (by decide) b9 (by decide) (by decide)).trans (by omega)
        refine t_iald E G 54 (rfl : ro 396 = 54) (by decide) (by decide) rfl (n := 127) rfl (iv_vp b28 (by decide) (by decide)) dX11_lure_74 ?_
        refine lv_topi (fun v30 e31 => ?_)
        exact RET G rfl rfl dX11_lure_75
      · refine lv_tableIn (off := 65) (tgt := 76) E.1 E.2.1 dX11_lure_11 (by rw [ee4]; decide) (by rw [ee4]; decide) (by rw [ee4]; decide) (by decide) ?_
        refine lv_aload_n E.1 E.2.1 dX11_lure_76 rfl (lv_at hl 0 rfl) ?_
        refine t_get E G 11 20 (rfl : ro 386 = 11) (C := RX11) (T := TX11) (N := 37) rfl (by decide) (by decide) (by decide) mw_fl_11_39 (v := .ref (ad 396)) (fvl_o (n := 10) rfl) dX11_lure_77 ?_
        refine lv_bipush (v := 11) E.1 E.2.1 dX11_lure_80 (by decide) ?_
        refine lv_iconst (v := 3) E.1 E.2.1 dX11_lure_82 (by decide) ?_
        refine lv_iload_n E.1 E.2.1 dX11_lure_83 rfl (lv_at hl 1 rfl) ?_
        refine lv_imul E.1 E.2.1 dX11_lure_84 ?_
        refine lv_topi (fun v32 e33 => ?_)
        have b34 : iv 0 15 v32 := by rw [e33]; exact iv_mulc' b9 3 (by decide) (by decide) (by decide) (by decide) (by decide) (by decide)
        have l35 : v32.toInt = 0 + 3 * x1.toInt := (show v32.toInt = 3 * x1.toInt by rw [e33]; exact ti_cmul 3 (by decide) (by decide) b9 (by decide) (by decide)).trans (by omega)
        refine lv_iadd E.1 E.2.1 dX11_lure_85 ?_
        refine lv_topi (fun v36 e37 => ?_)
        have b38 : iv 11 26 v36 := by rw [e37]; exact iv_add (iv_lit (lo := 11) (hi := 11) 11 (by decide) (by decide)) b34 (by decide) (by decide) (by decide) (by decide)
        have l39 : v36.toInt = 11 + 3 * x1.toInt := (show v36.toInt = 11 + v32.toInt by rw [e37]; exact ti_cadd 11 (by decide) b34 (by decide) (by decide)).trans (by omega)
        refine lv_iconst (v := 2) E.1 E.2.1 dX11_lure_86 (by decide) ?_
        refine lv_iadd E.1 E.2.1 dX11_lure_87 ?_
        refine lv_topi (fun v40 e41 => ?_)
        have b42 : iv 13 28 v40 := by rw [e41]; exact iv_add b38 (iv_lit (lo := 2) (hi := 2) 2 (by decide) (by decide)) (by decide) (by decide) (by decide) (by decide)
        have l43 : v40.toInt = 13 + 3 * x1.toInt := (show v40.toInt = v36.toInt + 2 by rw [e41]; exact ti_addc 2 (by decide) b38 (by decide) (by decide)).trans (by omega)
        refine t_iald E G 54 (rfl : ro 396 = 54) (by decide) (by decide) rfl (n := 127) rfl (iv_vp b42 (by decide) (by decide)) dX11_lure_88 ?_
        refine lv_topi (fun v44 e45 => ?_)
        exact RET G rfl rfl dX11_lure_89
  · skip
    have b46 : iv 0 0 r2 := iv_eq c7 (iv_lit (lo := 0) (hi := 0) 0 (by decide) (by decide))
    refine lv_iconst (v := (-1)) E.1 E.2.1 dX11_lure_8 (by decide) ?_
    exact RET G rfl rfl dX11_lure_9
set_option maxHeartbeats 4000000 in
set_option maxRecDepth 100000 in
theorem v_walker (l : Launch) (D : va_G) (K : Nat → ClassId) (ad : Nat → Nat) (z : TS) (o : Ok z) (x1 : Int32) (x2 : Int32) : cI l yX11_walker cX11_walker 3 .int ({ frames := 1, cells := 0, slots := 0, locals := 21 }) D K ad z [.ref (ad 386), .int x1, .int x2] (fun r u => u = z) := by
  refine t_enterI (by decide) (Nat.le_of_ble_eq_true rfl) rfl rfl ?_
  intro p e s m args below meth c A R Q H locs ls E hfr hlo RET G hl
  have E : mE p s m meth c cX11_walker args 3 RX11 D K A := E
  have hl : lv_has ls 3 [(0, .ref (ad 386)), (1, .int x1), (2, .int x2)] := hl
  refine lv_aload_n E.1 E.2.1 dX11_walker_0 rfl (lv_at hl 0 rfl) ?_
  refine lv_iload_n E.1 E.2.1 dX11_walker_1 rfl (lv_at hl 1 rfl) ?_
  refine t_vi E G hl (v_isWalker l D K ad z o x1) 11 (rfl : ro 386 = 11) (by decide) rfl rfl 1 rfl mw_code_X11_isWalker mw_ini_11 mw_ml_11_317 mw_inst_X11_isWalker mw_sel_X11_isWalker hd_X11_isWalker ⟨Nat.le_trans (by decide) hfr, Nat.le_trans (by decide) hlo⟩ rfl rfl rfl (Nat.le_of_ble_eq_true rfl) dX11_walker_2 (fun r2 zz1 H locs hp3 G => ?_)
  obtain ⟨hz6, b4, h5⟩ := hp3
  rw [hz6] at G
  refine lv_if_ne (tgt := 10) E.1 E.2.1 dX11_walker_5 (by decide) (fun c7 => ?_) (fun c7 => ?_)
  · skip
    have b8 : iv 1 1 r2 := ne_lo c7 b4 (by decide) (by decide)
    have b9 : iv 0 4 x1 := h5 c7
    refine lv_iload_n E.1 E.2.1 dX11_walker_10 rfl (lv_at hl 2 rfl) ?_
    rcases Decidable.em (x2.toInt < 0 ∨ 4 < x2.toInt) with c10 | c10
    · refine lv_tableOut (tgt := 82) E.1 E.2.1 dX11_walker_11 c10 (by decide) ?_
      refine lv_iconst (v := (-1)) E.1 E.2.1 dX11_walker_82 (by decide) ?_
      exact RET G rfl rfl dX11_walker_83
    · rcases sw_0_4 x2 (fun h => c10 (Or.inl h)) (fun h => c10 (Or.inr h)) with ee0 | ee1 | ee2 | ee3 | ee4
      · refine lv_tableIn (off := 33) (tgt := 44) E.1 E.2.1 dX11_walker_11 (by rw [ee0]; decide) (by rw [ee0]; decide) (by rw [ee0]; decide) (by decide) ?_
        refine lv_aload_n E.1 E.2.1 dX11_walker_44 rfl (lv_at hl 0 rfl) ?_
        refine lv_iload_n E.1 E.2.1 dX11_walker_45 rfl (lv_at hl 1 rfl) ?_
        refine t_vi E G hl (v_cornerOf l D K ad z o x1 (iv_mono b9 (by decide) (by decide))) 11 (rfl : ro 386 = 11) (by decide) rfl rfl 1 rfl mw_code_X11_cornerOf mw_ini_11 mw_ml_11_291 mw_inst_X11_cornerOf mw_sel_X11_cornerOf hd_X11_cornerOf ⟨Nat.le_trans (by decide) hfr, Nat.le_trans (by decide) hlo⟩ rfl rfl rfl (Nat.le_of_ble_eq_true rfl) dX11_walker_46 (fun r13 zz12 H locs hp14 G => ?_)
        obtain ⟨hz16, b15⟩ := hp14
        rw [hz16] at G
        exact RET G rfl rfl dX11_walker_49
      · refine lv_tableIn (off := 39) (tgt := 50) E.1 E.2.1 dX11_walker_11 (by rw [ee1]; decide) (by rw [ee1]; decide) (by rw [ee1]; decide) (by decide) ?_
        refine lv_aload_n E.1 E.2.1 dX11_walker_50 rfl (lv_at hl 0 rfl) ?_
        refine t_get E G 11 20 (rfl : ro 386 = 11) (C := RX11) (T := TX11) (N := 37) rfl (by decide) (by decide) (by decide) mw_fl_11_39 (v := .ref (ad 396)) (fvl_o (n := 10) rfl) dX11_walker_51 ?_
        refine lv_bipush (v := 56) E.1 E.2.1 dX11_walker_54 (by decide) ?_
        refine lv_iload_n E.1 E.2.1 dX11_walker_56 rfl (lv_at hl 1 rfl) ?_
        refine lv_iadd E.1 E.2.1 dX11_walker_57 ?_
        refine lv_topi (fun v17 e18 => ?_)
        have b19 : iv 56 60 v17 := by rw [e18]; exact iv_add (iv_lit (lo := 56) (hi := 56) 56 (by decide) (by decide)) b9 (by decide) (by decide) (by decide) (by decide)
        have l20 : v17.toInt = 56 + 1 * x1.toInt := (show v17.toInt = 56 + x1.toInt by rw [e18]; exact ti_cadd 56 (by decide) b9 (by decide) (by decide)).trans (by omega)
        refine t_iald E G 54 (rfl : ro 396 = 54) (by decide) (by decide) rfl (n := 127) rfl (iv_vp b19 (by decide) (by decide)) dX11_walker_58 ?_
        refine lv_topi (fun v21 e22 => ?_)
        have b23 : iv 0 7 v21 := by rw [e22]; exact rd1 o 54 (rfl : ro 396 = 54) 56 1 0 4 b9 (l20.trans (by omega)) (by decide +kernel)
        exact RET G rfl rfl dX11_walker_59
      · refine lv_tableIn (off := 49) (tgt := 60) E.1 E.2.1 dX11_walker_11 (by rw [ee2]; decide) (by rw [ee2]; decide) (by rw [ee2]; decide) (by decide) ?_
        refine lv_aload_n E.1 E.2.1 dX11_walker_60 rfl (lv_at hl 0 rfl) ?_
        refine t_get E G 11 20 (rfl : ro 386 = 11) (C := RX11) (T := TX11) (N := 37) rfl (by decide) (by decide) (by decide) mw_fl_11_39 (v := .ref (ad 396)) (fvl_o (n := 10) rfl) dX11_walker_61 ?_
        refine lv_bipush (v := 61) E.1 E.2.1 dX11_walker_64 (by decide) ?_
        refine lv_iload_n E.1 E.2.1 dX11_walker_66 rfl (lv_at hl 1 rfl) ?_
        refine lv_iadd E.1 E.2.1 dX11_walker_67 ?_
        refine lv_topi (fun v24 e25 => ?_)
        have b26 : iv 61 65 v24 := by rw [e25]; exact iv_add (iv_lit (lo := 61) (hi := 61) 61 (by decide) (by decide)) b9 (by decide) (by decide) (by decide) (by decide)
        have l27 : v24.toInt = 61 + 1 * x1.toInt := (show v24.toInt = 61 + x1.toInt by rw [e25]; exact ti_cadd 61 (by decide) b9 (by decide) (by decide)).trans (by omega)
        refine t_iald E G 54 (rfl : ro 396 = 54) (by decide) (by decide) rfl (n := 127) rfl (iv_vp b26 (by decide) (by decide)) dX11_walker_68 ?_
        refine lv_topi (fun v28 e29 => ?_)
        exact RET G rfl rfl dX11_walker_69
      · refine lv_tableIn (off := 59) (tgt := 70) E.1 E.2.1 dX11_walker_11 (by rw [ee3]; decide) (by rw [ee3]; decide) (by rw [ee3]; decide) (by decide) ?_
        refine lv_aload_n E.1 E.2.1 dX11_walker_70 rfl (lv_at hl 0 rfl) ?_
        refine lv_iload_n E.1 E.2.1 dX11_walker_71 rfl (lv_at hl 1 rfl) ?_
        refine t_vi E G hl (v_waryOf l D K ad z o x1 (iv_mono b9 (by decide) (by decide))) 11 (rfl : ro 386 = 11) (by decide) rfl rfl 1 rfl mw_code_X11_waryOf mw_ini_11 mw_ml_11_320 mw_inst_X11_waryOf mw_sel_X11_waryOf hd_X11_waryOf ⟨Nat.le_trans (by decide) hfr, Nat.le_trans (by decide) hlo⟩ rfl rfl rfl (Nat.le_of_ble_eq_true rfl) dX11_walker_72 (fun r31 zz30 H locs hp32 G => ?_)
        have hz33 := hp32
        rw [hz33] at G
        exact RET G rfl rfl dX11_walker_75
      · refine lv_tableIn (off := 65) (tgt := 76) E.1 E.2.1 dX11_walker_11 (by rw [ee4]; decide) (by rw [ee4]; decide) (by rw [ee4]; decide) (by decide) ?_
        refine lv_aload_n E.1 E.2.1 dX11_walker_76 rfl (lv_at hl 0 rfl) ?_
        refine lv_iload_n E.1 E.2.1 dX11_walker_77 rfl (lv_at hl 1 rfl) ?_
        refine t_vi E G hl (v_chargeOf l D K ad z o x1 (iv_mono b9 (by decide) (by decide))) 11 (rfl : ro 386 = 11) (by decide) rfl rfl 1 rfl mw_code_X11_chargeOf mw_ini_11 mw_ml_11_294 mw_inst_X11_chargeOf mw_sel_X11_chargeOf hd_X11_chargeOf ⟨Nat.le_trans (by decide) hfr, Nat.le_trans (by decide) hlo⟩ rfl rfl rfl (Nat.le_of_ble_eq_true rfl) dX11_walker_78 (fun r35 zz34 H locs hp36 G => ?_)
        have hz37 := hp36
        rw [hz37] at G
        exact RET G rfl rfl dX11_walker_81
  · skip
    have b38 : iv 0 0 r2 := iv_eq c7 (iv_lit (lo := 0) (hi := 0) 0 (by decide) (by decide))
    refine lv_iconst (v := (-1)) E.1 E.2.1 dX11_walker_8 (by decide) ?_
    exact RET G rfl rfl dX11_walker_9
set_option maxHeartbeats 4000000 in
set_option maxRecDepth 100000 in
theorem v_ways (l : Launch) (D : va_G) (K : Nat → ClassId) (ad : Nat → Nat) (z : TS) (o : Ok z) (x1 : Int32) : cI l yX11_ways cX11_ways 2 .int ({ frames := 1, cells := 0, slots := 0, locals := 21 }) D K ad z [.ref (ad 386), .int x1] (fun r u => u = z) := by
  refine t_enterI (by decide) (Nat.le_of_ble_eq_true rfl) rfl rfl ?_
  intro p e s m args below meth c A R Q H locs ls E hfr hlo RET G hl
  have E : mE p s m meth c cX11_ways args 2 RX11 D K A := E
  have hl : lv_has ls 2 [(0, .ref (ad 386)), (1, .int x1)] := hl
  refine lv_aload_n E.1 E.2.1 dX11_ways_0 rfl (lv_at hl 0 rfl) ?_
  refine lv_iload_n E.1 E.2.1 dX11_ways_1 rfl (lv_at hl 1 rfl) ?_
  refine t_vi E G hl (v_isCorner l D K ad z o x1) 11 (rfl : ro 386 = 11) (by decide) rfl rfl 1 rfl mw_code_X11_isCorner mw_ini_11 mw_ml_11_323 mw_inst_X11_isCorner mw_sel_X11_isCorner hd_X11_isCorner ⟨Nat.le_trans (by decide) hfr, Nat.le_trans (by decide) hlo⟩ rfl rfl rfl (Nat.le_of_ble_eq_true rfl) dX11_ways_2 (fun r2 zz1 H locs hp3 G => ?_)
  obtain ⟨hz6, b4, h5⟩ := hp3
  rw [hz6] at G
  refine lv_if_eq (tgt := 20) E.1 E.2.1 dX11_ways_5 (by decide) (fun c7 => ?_) (fun c7 => ?_)
  · skip
    have b8 : iv 0 0 r2 := iv_eq c7 (iv_lit (lo := 0) (hi := 0) 0 (by decide) (by decide))
    refine lv_iconst (v := (-1)) E.1 E.2.1 dX11_ways_20 (by decide) ?_
    exact RET G rfl rfl dX11_ways_21
  · skip
    have b9 : iv 1 1 r2 := ne_lo c7 b4 (by decide) (by decide)
    have b10 : iv 0 7 x1 := h5 c7
    refine lv_aload_n E.1 E.2.1 dX11_ways_8 rfl (lv_at hl 0 rfl) ?_
    refine t_get E G 11 20 (rfl : ro 386 = 11) (C := RX11) (T := TX11) (N := 37) rfl (by decide) (by decide) (by decide) mw_fl_11_39 (v := .ref (ad 396)) (fvl_o (n := 10) rfl) dX11_ways_9 ?_
    refine lv_bipush (v := 88) E.1 E.2.1 dX11_ways_12 (by decide) ?_
    refine lv_iload_n E.1 E.2.1 dX11_ways_14 rfl (lv_at hl 1 rfl) ?_
    refine lv_iadd E.1 E.2.1 dX11_ways_15 ?_
    refine lv_topi (fun v11 e12 => ?_)
    have b13 : iv 88 95 v11 := by rw [e12]; exact iv_add (iv_lit (lo := 88) (hi := 88) 88 (by decide) (by decide)) b10 (by decide) (by decide) (by decide) (by decide)
    have l14 : v11.toInt = 88 + 1 * x1.toInt := (show v11.toInt = 88 + x1.toInt by rw [e12]; exact ti_cadd 88 (by decide) b10 (by decide) (by decide)).trans (by omega)
    refine t_iald E G 54 (rfl : ro 396 = 54) (by decide) (by decide) rfl (n := 127) rfl (iv_vp b13 (by decide) (by decide)) dX11_ways_16 ?_
    refine lv_topi (fun v15 e16 => ?_)
    refine lv_goto (tgt := 21) E.1 E.2.1 dX11_ways_17 (by decide) ?_
    exact RET G rfl rfl dX11_ways_21
set_option maxHeartbeats 4000000 in
set_option maxRecDepth 100000 in
theorem v_homewards (l : Launch) (D : va_G) (K : Nat → ClassId) (ad : Nat → Nat) (z : TS) (o : Ok z) (x1 : Int32) (bx1 : iv 0 4 x1) : cI l yX11_homewards cX11_homewards 5 .int ({ frames := 4, cells := 0, slots := 0, locals := 92 }) D K ad z [.ref (ad 386), .int x1] (fun r u => u = z ∧ iv 0 7 r) := by
  refine t_enterI (by decide) (Nat.le_of_ble_eq_true rfl) rfl rfl ?_
  intro p e s m args below meth c A R Q H locs ls E hfr hlo RET G hl
  have E : mE p s m meth c cX11_homewards args 5 RX11 D K A := E
  have hl : lv_has ls 5 [(0, .ref (ad 386)), (1, .int x1)] := hl
  refine lv_aload_n E.1 E.2.1 dX11_homewards_0 rfl (lv_at hl 0 rfl) ?_
  refine lv_iload_n E.1 E.2.1 dX11_homewards_1 rfl (lv_at hl 1 rfl) ?_
  refine t_vi E G hl (v_cornerOf l D K ad z o x1 (iv_mono bx1 (by decide) (by decide))) 11 (rfl : ro 386 = 11) (by decide) rfl rfl 1 rfl mw_code_X11_cornerOf mw_ini_11 mw_ml_11_291 mw_inst_X11_cornerOf mw_sel_X11_cornerOf hd_X11_cornerOf ⟨Nat.le_trans (by decide) hfr, Nat.le_trans (by decide) hlo⟩ rfl rfl rfl (Nat.le_of_ble_eq_true rfl) dX11_homewards_2 (fun r2 zz1 H locs hp3 G => ?_)
  obtain ⟨hz5, b4⟩ := hp3
  rw [hz5] at G
  refine lv_istore_n (lv' := [(2, .int r2), (0, .ref (ad 386)), (1, .int x1)]) E.1 E.2.1 dX11_homewards_5 rfl hl (by decide) rfl (fun ls hl => ?_)
  refine lv_aload_n E.1 E.2.1 dX11_homewards_6 rfl (lv_at hl 1 rfl) ?_
  refine lv_iload_n E.1 E.2.1 dX11_homewards_7 rfl (lv_at hl 2 rfl) ?_
  refine lv_iload_n E.1 E.2.1 dX11_homewards_8 rfl (lv_at hl 0 rfl) ?_
  refine t_vi E G hl (v_homeFrom l D K ad z o x1 (iv_mono bx1 (by decide) (by decide)) r2) 11 (rfl : ro 386 = 11) (by decide) rfl rfl 2 rfl mw_code_X11_homeFrom mw_ini_11 mw_ml_11_333 mw_inst_X11_homeFrom mw_sel_X11_homeFrom hd_X11_homeFrom ⟨Nat.le_trans (by decide) hfr, Nat.le_trans (by decide) hlo⟩ rfl rfl rfl (Nat.le_of_ble_eq_true rfl) dX11_homewards_9 (fun r7 zz6 H locs hp8 G => ?_)
  obtain ⟨hz10, b9⟩ := hp8
  rw [hz10] at G
  refine lv_istore_n (lv' := [(3, .int r7), (2, .int r2), (0, .ref (ad 386)), (1, .int x1)]) E.1 E.2.1 dX11_homewards_12 rfl hl (by decide) rfl (fun ls hl => ?_)
  refine lv_iload_n E.1 E.2.1 dX11_homewards_13 rfl (lv_at hl 0 rfl) ?_
  refine lv_bipush (v := 99) E.1 E.2.1 dX11_homewards_14 (by decide) ?_
  refine lv_icmp_ne (tgt := 21) E.1 E.2.1 dX11_homewards_16 (by decide) (fun c11 => ?_) (fun c11 => ?_)
  · skip
    have b12 : iv 0 98 r7 := ne_hi c11 b9 (by decide) (by decide)
    refine lv_iconst (v := 0) E.1 E.2.1 dX11_homewards_21 (by decide) ?_
    refine lv_istore (lv' := [(4, .int 0), (3, .int r7), (2, .int r2), (0, .ref (ad 386)), (1, .int x1)]) E.1 E.2.1 dX11_homewards_22 hl (by decide) rfl (fun ls hl => ?_)
    have LOOP24 : ∀ n : Nat, ∀ (y13 : Int32) (H : Heap) (locs : List Loc) (ls : Array Slot), mG D A s H locs (wd K ad z) → iv 0 8 y13 → 8 < y13.toInt + (n : Int) → lv_has ls 5 [(4, .int y13), (3, .int r7), (2, .int r2), (0, .ref (ad 386)), (1, .int x1)] → W p l e R s m args below meth c H locs 0 0 Q (F0 m 24 ls []) := by
      intro n
      induction n with
      | zero =>
        intro y13 H locs ls G b18 m17 hl
        exact absurd m17 (by have := b18.1; have := b18.2; omega)
      | succ n ih24 =>
        intro y13 H locs ls G b18 m17 hl
        refine lv_iload E.1 E.2.1 dX11_homewards_24 (lv_at hl 0 rfl) ?_
        refine lv_aload_n E.1 E.2.1 dX11_homewards_26 rfl (lv_at hl 3 rfl) ?_
        refine t_get E G 11 20 (rfl : ro 386 = 11) (C := RX11) (T := TX11) (N := 37) rfl (by decide) (by decide) (by decide) mw_fl_11_39 (v := .ref (ad 396)) (fvl_o (n := 10) rfl) dX11_homewards_27 ?_
        refine lv_iconst (v := 1) E.1 E.2.1 dX11_homewards_30 (by decide) ?_
        refine t_iald E G 54 (rfl : ro 396 = 54) (by decide) (by decide) rfl (n := 127) rfl (by unfold vp_in; decide) dX11_homewards_31 ?_
        refine lv_topi (fun v19 e20 => ?_)
        have b21 : iv 0 8 v19 := by rw [e20]; exact iv_mono (o.a 54 (rfl : ro 396 = 54) _) (by decide +kernel) (by decide +kernel)
        refine lv_icmp_ge (tgt := 74) E.1 E.2.1 dX11_homewards_32 (by decide) (fun c22 => ?_) (fun c22 => ?_)
        · skip
          refine lv_iload_n E.1 E.2.1 dX11_homewards_74 rfl (lv_at hl 2 rfl) ?_
          exact RET G ⟨rfl, (iv_mono b4 (by decide) (by decide))⟩ rfl dX11_homewards_75
        · skip
          have b23 : iv 0 7 y13 := lt_l (Int32.not_le.mp c22) b18 b21 (by decide)
          have b24 : iv 1 8 v19 := lt_r (Int32.not_le.mp c22) b18 b21 (by decide)
          refine lv_aload_n E.1 E.2.1 dX11_homewards_35 rfl (lv_at hl 3 rfl) ?_
          refine t_get E G 11 20 (rfl : ro 386 = 11) (C := RX11) (T := TX11) (N := 37) rfl (by decide) (by decide) (by decide) mw_fl_11_39 (v := .ref (ad 396)) (fvl_o (n := 10) rfl) dX11_homewards_36 ?_
          refine lv_bipush (v := 88) E.1 E.2.1 dX11_homewards_39 (by decide) ?_
          refine lv_iload_n E.1 E.2.1 dX11_homewards_41 rfl (lv_at hl 2 rfl) ?_
          refine lv_iadd E.1 E.2.1 dX11_homewards_42 ?_
          refine lv_topi (fun v25 e26 => ?_)
          have b27 : iv 88 95 v25 := by rw [e26]; exact iv_add (iv_lit (lo := 88) (hi := 88) 88 (by decide) (by decide)) b4 (by decide) (by decide) (by decide) (by decide)
          have l28 : v25.toInt = 88 + 1 * r2.toInt := (show v25.toInt = 88 + r2.toInt by rw [e26]; exact ti_cadd 88 (by decide) b4 (by decide) (by decide)).trans (by omega)
          refine t_iald E G 54 (rfl : ro 396 = 54) (by decide) (by decide) rfl (n := 127) rfl (iv_vp b27 (by decide) (by decide)) dX11_homewards_43 ?_
          refine lv_topi (fun v29 e30 => ?_)
          refine lv_iload E.1 E.2.1 dX11_homewards_44 (lv_at hl 0 rfl) ?_
          refine t_si E G hl (v_isOf l D K ad z o v29 y13) 2 rfl mw_code_X11_isOf mw_ini_11 mw_ml_11_297 mw_stat_X11_isOf hd_X11_isOf ⟨Nat.le_trans (by decide) hfr, Nat.le_trans (by decide) hlo⟩ rfl rfl rfl (Nat.le_of_ble_eq_true rfl) dX11_homewards_46 (fun r32 zz31 H locs hp33 G => ?_)
          obtain ⟨hz35, b34⟩ := hp33
          rw [hz35] at G
          refine lv_if_eq (tgt := 68) E.1 E.2.1 dX11_homewards_49 (by decide) (fun c36 => ?_) (fun c36 => ?_)
          · skip
            have b37 : iv 0 0 r32 := iv_eq c36 (iv_lit (lo := 0) (hi := 0) 0 (by decide) (by decide))
            obtain ⟨v38, e39⟩ : ∃ w : Int32, w = y13 + (1 : Int32) := ⟨_, rfl⟩
            refine lv_iinc (v := v38) (lv' := [(4, .int v38), (3, .int r7), (2, .int r2), (0, .ref (ad 386)), (1, .int x1)]) E.1 E.2.1 dX11_homewards_68 hl (k := 0) rfl (by rw [e39]; rfl) (by decide) rfl (fun ls hl => ?_)
            have b40 : iv 1 8 v38 := by rw [e39]; exact iv_add b23 (iv_lit (lo := 1) (hi := 1) 1 (by decide) (by decide)) (by decide) (by decide) (by decide) (by decide)
            have t41 : v38.toInt = y13.toInt + 1 := by rw [e39]; exact ti_addc 1 (by decide) b23 (by decide) (by decide)
            refine lv_goto (tgt := 24) E.1 E.2.1 dX11_homewards_71 (by decide) ?_
            exact ih24 v38 H locs ls G (iv_mono b40 (by decide) (by decide)) (by have := t41; have := m17; omega) (lv_sub hl [0, 1, 2, 3, 4] rfl)
          · skip
            have b42 : iv 1 1 r32 := ne_lo c36 b34 (by decide) (by decide)
            refine lv_aload_n E.1 E.2.1 dX11_homewards_52 rfl (lv_at hl 3 rfl) ?_
            refine lv_iload_n E.1 E.2.1 dX11_homewards_53 rfl (lv_at hl 4 rfl) ?_
            refine lv_iload E.1 E.2.1 dX11_homewards_54 (lv_at hl 0 rfl) ?_
            refine t_vi E G hl (v_homeFrom l D K ad z o x1 (iv_mono bx1 (by decide) (by decide)) y13) 11 (rfl : ro 386 = 11) (by decide) rfl rfl 2 rfl mw_code_X11_homeFrom mw_ini_11 mw_ml_11_333 mw_inst_X11_homeFrom mw_sel_X11_homeFrom hd_X11_homeFrom ⟨Nat.le_trans (by decide) hfr, Nat.le_trans (by decide) hlo⟩ rfl rfl rfl (Nat.le_of_ble_eq_true rfl) dX11_homewards_56 (fun r44 zz43 H locs hp45 G => ?_)
            obtain ⟨hz47, b46⟩ := hp45
            rw [hz47] at G
            refine lv_iload_n E.1 E.2.1 dX11_homewards_59 rfl (lv_at hl 1 rfl) ?_
            refine lv_iconst (v := 1) E.1 E.2.1 dX11_homewards_60 (by decide) ?_
            refine lv_isub E.1 E.2.1 dX11_homewards_61 ?_
            refine lv_topi (fun v48 e49 => ?_)
            have b50 : iv (-1) 97 v48 := by rw [e49]; exact iv_sub b12 (iv_lit (lo := 1) (hi := 1) 1 (by decide) (by decide)) (by decide) (by decide) (by decide) (by decide)
            have l51 : v48.toInt = (-1) + 1 * r7.toInt := (show v48.toInt = r7.toInt - 1 by rw [e49]; exact ti_subc 1 (by decide) b12 (by decide) (by decide)).trans (by omega)
            refine lv_icmp_ne (tgt := 68) E.1 E.2.1 dX11_homewards_62 (by decide) (fun c52 => ?_) (fun c52 => ?_)
            · skip
              obtain ⟨v53, e54⟩ : ∃ w : Int32, w = y13 + (1 : Int32) := ⟨_, rfl⟩
              refine lv_iinc (v := v53) (lv' := [(4, .int v53), (3, .int r7), (2, .int r2), (0, .ref (ad 386)), (1, .int x1)]) E.1 E.2.1 dX11_homewards_68 hl (k := 0) rfl (by rw [e54]; rfl) (by decide) rfl (fun ls hl => ?_)
              have b55 : iv 1 8 v53 := by rw [e54]; exact iv_add b23 (iv_lit (lo := 1) (hi := 1) 1 (by decide) (by decide)) (by decide) (by decide) (by decide) (by decide)
              have t56 : v53.toInt = y13.toInt + 1 := by rw [e54]; exact ti_addc 1 (by decide) b23 (by decide) (by decide)
              refine lv_goto (tgt := 24) E.1 E.2.1 dX11_homewards_71 (by decide) ?_
              exact ih24 v53 H locs ls G (iv_mono b55 (by decide) (by decide)) (by have := t56; have := m17; omega) (lv_sub hl [0, 1, 2, 3, 4] rfl)
            · skip
              refine lv_iload E.1 E.2.1 dX11_homewards_65 (lv_at hl 0 rfl) ?_
              exact RET G ⟨rfl, (iv_mono b23 (by decide) (by decide))⟩ rfl dX11_homewards_67
    exact LOOP24 9 0 H locs ls G (iv_mono (iv_lit (lo := 0) (hi := 0) 0 (by decide) (by decide)) (by decide) (by decide)) (by have := (iv_lit (lo := 0) (hi := 0) 0 (by decide) (by decide)).1; omega) (lv_sub hl [0, 1, 2, 3, 4] rfl)
  · skip
    have b57 : iv 99 99 r7 := iv_eq c11 (iv_lit (lo := 99) (hi := 99) 99 (by decide) (by decide))
    refine lv_iload_n E.1 E.2.1 dX11_homewards_19 rfl (lv_at hl 1 rfl) ?_
    exact RET G ⟨rfl, (iv_mono b4 (by decide) (by decide))⟩ rfl dX11_homewards_20
set_option maxHeartbeats 4000000 in
set_option maxRecDepth 100000 in
theorem v_lureFor (l : Launch) (D : va_G) (K : Nat → ClassId) (ad : Nat → Nat) (z : TS) (o : Ok z) (x1 : Int32) (bx1 : iv 0 4 x1) : cI l yX11_lureFor cX11_lureFor 3 .int ({ frames := 2, cells := 0, slots := 0, locals := 43 }) D K ad z [.ref (ad 386), .int x1] (fun r u => u = z ∧ iv (-1) 5 r) := by
  refine t_enterI (by decide) (Nat.le_of_ble_eq_true rfl) rfl rfl ?_
  intro p e s m args below meth c A R Q H locs ls E hfr hlo RET G hl
  have E : mE p s m meth c cX11_lureFor args 3 RX11 D K A := E
  have hl : lv_has ls 3 [(0, .ref (ad 386)), (1, .int x1)] := hl
  refine lv_iconst (v := 0) E.1 E.2.1 dX11_lureFor_0 (by decide) ?_
  refine lv_istore_n (lv' := [(2, .int 0), (0, .ref (ad 386)), (1, .int x1)]) E.1 E.2.1 dX11_lureFor_1 rfl hl (by decide) rfl (fun ls hl => ?_)
  have LOOP2 : ∀ n : Nat, ∀ (y1 : Int32) (H : Heap) (locs : List Loc) (ls : Array Slot), mG D A s H locs (wd K ad z) → iv 0 6 y1 → 6 < y1.toInt + (n : Int) → lv_has ls 3 [(2, .int y1), (0, .ref (ad 386)), (1, .int x1)] → W p l e R s m args below meth c H locs 0 0 Q (F0 m 2 ls []) := by
    intro n
    induction n with
    | zero =>
      intro y1 H locs ls G b6 m5 hl
      exact absurd m5 (by have := b6.1; have := b6.2; omega)
    | succ n ih2 =>
      intro y1 H locs ls G b6 m5 hl
      refine lv_iload_n E.1 E.2.1 dX11_lureFor_2 rfl (lv_at hl 0 rfl) ?_
      refine lv_aload_n E.1 E.2.1 dX11_lureFor_3 rfl (lv_at hl 1 rfl) ?_
      refine t_get E G 11 20 (rfl : ro 386 = 11) (C := RX11) (T := TX11) (N := 37) rfl (by decide) (by decide) (by decide) mw_fl_11_39 (v := .ref (ad 396)) (fvl_o (n := 10) rfl) dX11_lureFor_4 ?_
      refine lv_iconst (v := 3) E.1 E.2.1 dX11_lureFor_7 (by decide) ?_
      refine t_iald E G 54 (rfl : ro 396 = 54) (by decide) (by decide) rfl (n := 127) rfl (by unfold vp_in; decide) dX11_lureFor_8 ?_
      refine lv_topi (fun v7 e8 => ?_)
      have b9 : iv 0 6 v7 := by rw [e8]; exact iv_mono (o.a 54 (rfl : ro 396 = 54) _) (by decide +kernel) (by decide +kernel)
      refine lv_icmp_ge (tgt := 50) E.1 E.2.1 dX11_lureFor_9 (by decide) (fun c10 => ?_) (fun c10 => ?_)
      · skip
        refine lv_iconst (v := (-1)) E.1 E.2.1 dX11_lureFor_50 (by decide) ?_
        exact RET G ⟨rfl, (iv_mono (iv_lit (lo := (-1)) (hi := (-1)) (-1) (by decide) (by decide)) (by decide) (by decide))⟩ rfl dX11_lureFor_51
      · skip
        have b11 : iv 0 5 y1 := lt_l (Int32.not_le.mp c10) b6 b9 (by decide)
        have b12 : iv 1 6 v7 := lt_r (Int32.not_le.mp c10) b6 b9 (by decide)
        refine lv_aload_n E.1 E.2.1 dX11_lureFor_12 rfl (lv_at hl 1 rfl) ?_
        refine lv_iload_n E.1 E.2.1 dX11_lureFor_13 rfl (lv_at hl 0 rfl) ?_
        refine t_vi E G hl (v_isLaid l D K ad z o y1) 11 (rfl : ro 386 = 11) (by decide) rfl rfl 1 rfl mw_code_X11_isLaid mw_ini_11 mw_ml_11_288 mw_inst_X11_isLaid mw_sel_X11_isLaid hd_X11_isLaid ⟨Nat.le_trans (by decide) hfr, Nat.le_trans (by decide) hlo⟩ rfl rfl rfl (Nat.le_of_ble_eq_true rfl) dX11_lureFor_14 (fun r14 zz13 H locs hp15 G => ?_)
        obtain ⟨hz18, b16, h17⟩ := hp15
        rw [hz18] at G
        refine lv_if_eq (tgt := 44) E.1 E.2.1 dX11_lureFor_17 (by decide) (fun c19 => ?_) (fun c19 => ?_)
        · skip
          have b20 : iv 0 0 r14 := iv_eq c19 (iv_lit (lo := 0) (hi := 0) 0 (by decide) (by decide))
          obtain ⟨v21, e22⟩ : ∃ w : Int32, w = y1 + (1 : Int32) := ⟨_, rfl⟩
          refine lv_iinc (v := v21) (lv' := [(2, .int v21), (0, .ref (ad 386)), (1, .int x1)]) E.1 E.2.1 dX11_lureFor_44 hl (k := 0) rfl (by rw [e22]; rfl) (by decide) rfl (fun ls hl => ?_)
          have b23 : iv 1 6 v21 := by rw [e22]; exact iv_add b11 (iv_lit (lo := 1) (hi := 1) 1 (by decide) (by decide)) (by decide) (by decide) (by decide) (by decide)
          have t24 : v21.toInt = y1.toInt + 1 := by rw [e22]; exact ti_addc 1 (by decide) b11 (by decide) (by decide)
          refine lv_goto (tgt := 2) E.1 E.2.1 dX11_lureFor_47 (by decide) ?_
          exact ih2 v21 H locs ls G (iv_mono b23 (by decide) (by decide)) (by have := t24; have := m5; omega) (lv_sub hl [0, 1, 2] rfl)
        · skip
          have b25 : iv 1 1 r14 := ne_lo c19 b16 (by decide) (by decide)
          refine lv_aload_n E.1 E.2.1 dX11_lureFor_20 rfl (lv_at hl 1 rfl) ?_
          refine lv_iload_n E.1 E.2.1 dX11_lureFor_21 rfl (lv_at hl 0 rfl) ?_
          refine t_vi E G hl (v_lureAt l D K ad z o y1 (iv_mono b11 (by decide) (by decide))) 11 (rfl : ro 386 = 11) (by decide) rfl rfl 1 rfl mw_code_X11_lureAt mw_ini_11 mw_ml_11_311 mw_inst_X11_lureAt mw_sel_X11_lureAt hd_X11_lureAt ⟨Nat.le_trans (by decide) hfr, Nat.le_trans (by decide) hlo⟩ rfl rfl rfl (Nat.le_of_ble_eq_true rfl) dX11_lureFor_22 (fun r27 zz26 H locs hp28 G => ?_)
          have hz29 := hp28
          rw [hz29] at G
          refine lv_aload_n E.1 E.2.1 dX11_lureFor_25 rfl (lv_at hl 1 rfl) ?_
          refine lv_iload_n E.1 E.2.1 dX11_lureFor_26 rfl (lv_at hl 2 rfl) ?_
          refine t_vi E G hl (v_cornerOf l D K ad z o x1 (iv_mono bx1 (by decide) (by decide))) 11 (rfl : ro 386 = 11) (by decide) rfl rfl 1 rfl mw_code_X11_cornerOf mw_ini_11 mw_ml_11_291 mw_inst_X11_cornerOf mw_sel_X11_cornerOf hd_X11_cornerOf ⟨Nat.le_trans (by decide) hfr, Nat.le_trans (by decide) hlo⟩ rfl rfl rfl (Nat.le_of_ble_eq_true rfl) dX11_lureFor_27 (fun r31 zz30 H locs hp32 G => ?_)
          obtain ⟨hz34, b33⟩ := hp32
          rw [hz34] at G
          refine lv_icmp_ne (tgt := 44) E.1 E.2.1 dX11_lureFor_30 (by decide) (fun c35 => ?_) (fun c35 => ?_)
          · skip
            obtain ⟨v36, e37⟩ : ∃ w : Int32, w = y1 + (1 : Int32) := ⟨_, rfl⟩
            refine lv_iinc (v := v36) (lv' := [(2, .int v36), (0, .ref (ad 386)), (1, .int x1)]) E.1 E.2.1 dX11_lureFor_44 hl (k := 0) rfl (by rw [e37]; rfl) (by decide) rfl (fun ls hl => ?_)
            have b38 : iv 1 6 v36 := by rw [e37]; exact iv_add b11 (iv_lit (lo := 1) (hi := 1) 1 (by decide) (by decide)) (by decide) (by decide) (by decide) (by decide)
            have t39 : v36.toInt = y1.toInt + 1 := by rw [e37]; exact ti_addc 1 (by decide) b11 (by decide) (by decide)
            refine lv_goto (tgt := 2) E.1 E.2.1 dX11_lureFor_47 (by decide) ?_
            exact ih2 v36 H locs ls G (iv_mono b38 (by decide) (by decide)) (by have := t39; have := m5; omega) (lv_sub hl [0, 1, 2] rfl)
          · skip
            refine lv_aload_n E.1 E.2.1 dX11_lureFor_33 rfl (lv_at hl 1 rfl) ?_
            refine lv_iload_n E.1 E.2.1 dX11_lureFor_34 rfl (lv_at hl 0 rfl) ?_
            refine lv_iload_n E.1 E.2.1 dX11_lureFor_35 rfl (lv_at hl 2 rfl) ?_
            refine t_vi E G hl (v_wouldHave l D K ad z o y1 (iv_mono b11 (by decide) (by decide)) x1 (iv_mono bx1 (by decide) (by decide))) 11 (rfl : ro 386 = 11) (by decide) rfl rfl 2 rfl mw_code_X11_wouldHave mw_ini_11 mw_ml_11_330 mw_inst_X11_wouldHave mw_sel_X11_wouldHave hd_X11_wouldHave ⟨Nat.le_trans (by decide) hfr, Nat.le_trans (by decide) hlo⟩ rfl rfl rfl (Nat.le_of_ble_eq_true rfl) dX11_lureFor_36 (fun r41 zz40 H locs hp42 G => ?_)
            obtain ⟨hz44, b43⟩ := hp42
            rw [hz44] at G
            refine lv_if_eq (tgt := 44) E.1 E.2.1 dX11_lureFor_39 (by decide) (fun c45 => ?_) (fun c45 => ?_)
            · skip
              have b46 : iv 0 0 r41 := iv_eq c45 (iv_lit (lo := 0) (hi := 0) 0 (by decide) (by decide))
              obtain ⟨v47, e48⟩ : ∃ w : Int32, w = y1 + (1 : Int32) := ⟨_, rfl⟩
              refine lv_iinc (v := v47) (lv' := [(2, .int v47), (0, .ref (ad 386)), (1, .int x1)]) E.1 E.2.1 dX11_lureFor_44 hl (k := 0) rfl (by rw [e48]; rfl) (by decide) rfl (fun ls hl => ?_)
              have b49 : iv 1 6 v47 := by rw [e48]; exact iv_add b11 (iv_lit (lo := 1) (hi := 1) 1 (by decide) (by decide)) (by decide) (by decide) (by decide) (by decide)
              have t50 : v47.toInt = y1.toInt + 1 := by rw [e48]; exact ti_addc 1 (by decide) b11 (by decide) (by decide)
              refine lv_goto (tgt := 2) E.1 E.2.1 dX11_lureFor_47 (by decide) ?_
              exact ih2 v47 H locs ls G (iv_mono b49 (by decide) (by decide)) (by have := t50; have := m5; omega) (lv_sub hl [0, 1, 2] rfl)
            · skip
              have b51 : iv 1 1 r41 := ne_lo c45 b43 (by decide) (by decide)
              refine lv_iload_n E.1 E.2.1 dX11_lureFor_42 rfl (lv_at hl 0 rfl) ?_
              exact RET G ⟨rfl, (iv_mono b11 (by decide) (by decide))⟩ rfl dX11_lureFor_43
  exact LOOP2 7 0 H locs ls G (iv_mono (iv_lit (lo := 0) (hi := 0) 0 (by decide) (by decide)) (by decide) (by decide)) (by have := (iv_lit (lo := 0) (hi := 0) 0 (by decide) (by decide)).1; omega) (lv_sub hl [0, 1, 2] rfl)
set_option maxHeartbeats 4000000 in
set_option maxRecDepth 100000 in
theorem v_has (l : Launch) (D : va_G) (K : Nat → ClassId) (ad : Nat → Nat) (z : TS) (o : Ok z) (x1 : Int32) (bx1 : iv 0 5 x1) (x2 : Int32) (bx2 : iv 0 4 x2) : cV l yX11_has cX11_has 5 ({ frames := 1, cells := 0, slots := 0, locals := 21 }) D K ad z [.ref (ad 386), .int x1, .int x2] (fun u => Ok u ∧ KM z u) := by
  refine t_enterV (by decide) (Nat.le_of_ble_eq_true rfl) rfl rfl ?_
  intro p e s m args below meth c A R Q H locs ls E hfr hlo RET G hl
  have E : mE p s m meth c cX11_has args 5 RX11 D K A := E
  have hl : lv_has ls 5 [(0, .ref (ad 386)), (1, .int x1), (2, .int x2)] := hl
  refine lv_bipush (v := 29) E.1 E.2.1 dX11_has_0 (by decide) ?_
  refine lv_iconst (v := 3) E.1 E.2.1 dX11_has_2 (by decide) ?_
  refine lv_iload_n E.1 E.2.1 dX11_has_3 rfl (lv_at hl 2 rfl) ?_
  refine lv_imul E.1 E.2.1 dX11_has_4 ?_
  refine lv_topi (fun v1 e2 => ?_)
  have b3 : iv 0 12 v1 := by rw [e2]; exact iv_mulc' bx2 3 (by decide) (by decide) (by decide) (by decide) (by decide) (by decide)
  have l4 : v1.toInt = 0 + 3 * x2.toInt := (show v1.toInt = 3 * x2.toInt by rw [e2]; exact ti_cmul 3 (by decide) (by decide) bx2 (by decide) (by decide)).trans (by omega)
  refine lv_iadd E.1 E.2.1 dX11_has_5 ?_
  refine lv_topi (fun v5 e6 => ?_)
  have b7 : iv 29 41 v5 := by rw [e6]; exact iv_add (iv_lit (lo := 29) (hi := 29) 29 (by decide) (by decide)) b3 (by decide) (by decide) (by decide) (by decide)
  have l8 : v5.toInt = 29 + 3 * x2.toInt := (show v5.toInt = 29 + v1.toInt by rw [e6]; exact ti_cadd 29 (by decide) b3 (by decide) (by decide)).trans (by omega)
  refine lv_istore_n (lv' := [(3, .int v5), (0, .ref (ad 386)), (1, .int x1), (2, .int x2)]) E.1 E.2.1 dX11_has_6 rfl hl (by decide) rfl (fun ls hl => ?_)
  refine lv_aload_n E.1 E.2.1 dX11_has_7 rfl (lv_at hl 1 rfl) ?_
  refine lv_iload_n E.1 E.2.1 dX11_has_8 rfl (lv_at hl 3 rfl) ?_
  refine t_vi E G hl (v_chargeOf l D K ad z o x2 (iv_mono bx2 (by decide) (by decide))) 11 (rfl : ro 386 = 11) (by decide) rfl rfl 1 rfl mw_code_X11_chargeOf mw_ini_11 mw_ml_11_294 mw_inst_X11_chargeOf mw_sel_X11_chargeOf hd_X11_chargeOf ⟨Nat.le_trans (by decide) hfr, Nat.le_trans (by decide) hlo⟩ rfl rfl rfl (Nat.le_of_ble_eq_true rfl) dX11_has_9 (fun r10 zz9 H locs hp11 G => ?_)
  have hz12 := hp11
  rw [hz12] at G
  refine lv_aload_n E.1 E.2.1 dX11_has_12 rfl (lv_at hl 1 rfl) ?_
  refine t_get E G 11 20 (rfl : ro 386 = 11) (C := RX11) (T := TX11) (N := 37) rfl (by decide) (by decide) (by decide) mw_fl_11_39 (v := .ref (ad 396)) (fvl_o (n := 10) rfl) dX11_has_13 ?_
  refine lv_bipush (v := 50) E.1 E.2.1 dX11_has_16 (by decide) ?_
  refine lv_iload_n E.1 E.2.1 dX11_has_18 rfl (lv_at hl 2 rfl) ?_
  refine lv_iadd E.1 E.2.1 dX11_has_19 ?_
  refine lv_topi (fun v13 e14 => ?_)
  have b15 : iv 50 55 v13 := by rw [e14]; exact iv_add (iv_lit (lo := 50) (hi := 50) 50 (by decide) (by decide)) bx1 (by decide) (by decide) (by decide) (by decide)
  have l16 : v13.toInt = 50 + 1 * x1.toInt := (show v13.toInt = 50 + x1.toInt by rw [e14]; exact ti_cadd 50 (by decide) bx1 (by decide) (by decide)).trans (by omega)
  refine t_iald E G 54 (rfl : ro 396 = 54) (by decide) (by decide) rfl (n := 127) rfl (iv_vp b15 (by decide) (by decide)) dX11_has_20 ?_
  refine lv_topi (fun v17 e18 => ?_)
  refine lv_iadd E.1 E.2.1 dX11_has_21 ?_
  refine lv_topi (fun v19 e20 => ?_)
  refine lv_istore (lv' := [(4, .int v19), (3, .int v5), (0, .ref (ad 386)), (1, .int x1), (2, .int x2)]) E.1 E.2.1 dX11_has_22 hl (by decide) rfl (fun ls hl => ?_)
  refine lv_aload_n E.1 E.2.1 dX11_has_24 rfl (lv_at hl 2 rfl) ?_
  refine t_get E G 11 20 (rfl : ro 386 = 11) (C := RX11) (T := TX11) (N := 37) rfl (by decide) (by decide) (by decide) mw_fl_11_39 (v := .ref (ad 396)) (fvl_o (n := 10) rfl) dX11_has_25 ?_
  refine lv_bipush (v := 11) E.1 E.2.1 dX11_has_28 (by decide) ?_
  refine lv_iconst (v := 3) E.1 E.2.1 dX11_has_30 (by decide) ?_
  refine lv_iload_n E.1 E.2.1 dX11_has_31 rfl (lv_at hl 3 rfl) ?_
  refine lv_imul E.1 E.2.1 dX11_has_32 ?_
  refine lv_topi (fun v21 e22 => ?_)
  have b23 : iv 0 15 v21 := by rw [e22]; exact iv_mulc' bx1 3 (by decide) (by decide) (by decide) (by decide) (by decide) (by decide)
  have l24 : v21.toInt = 0 + 3 * x1.toInt := (show v21.toInt = 3 * x1.toInt by rw [e22]; exact ti_cmul 3 (by decide) (by decide) bx1 (by decide) (by decide)).trans (by omega)
  refine lv_iadd E.1 E.2.1 dX11_has_33 ?_
  refine lv_topi (fun v25 e26 => ?_)
  have b27 : iv 11 26 v25 := by rw [e26]; exact iv_add (iv_lit (lo := 11) (hi := 11) 11 (by decide) (by decide)) b23 (by decide) (by decide) (by decide) (by decide)
  have l28 : v25.toInt = 11 + 3 * x1.toInt := (show v25.toInt = 11 + v21.toInt by rw [e26]; exact ti_cadd 11 (by decide) b23 (by decide) (by decide)).trans (by omega)
  refine lv_iconst (v := 2) E.1 E.2.1 dX11_has_34 (by decide) ?_
  refine lv_iadd E.1 E.2.1 dX11_has_35 ?_
  refine lv_topi (fun v29 e30 => ?_)
  have b31 : iv 13 28 v29 := by rw [e30]; exact iv_add b27 (iv_lit (lo := 2) (hi := 2) 2 (by decide) (by decide)) (by decide) (by decide) (by decide) (by decide)
  have l32 : v29.toInt = 13 + 3 * x1.toInt := (show v29.toInt = v25.toInt + 2 by rw [e30]; exact ti_addc 2 (by decide) b27 (by decide) (by decide)).trans (by omega)
  refine lv_iconst (v := 0) E.1 E.2.1 dX11_has_36 (by decide) ?_
  refine t_iast E G 54 (rfl : ro 396 = 54) (by decide) (by decide) rfl (n := 127) rfl (iv_vp b31 (by decide) (by decide)) dX11_has_37 (fun H locs G => ?_)
  obtain ⟨zz33, G, oo34, kk35⟩ : ∃ u : TS, mG D A s H locs (wd K ad u) ∧ Ok u ∧ KM z u := ⟨_, G, ok_u o 54 (rfl : ro 396 = 54) (wr1 13 3 0 5 (iv_lit (lo := 0) (hi := 0) 0 (by decide) (by decide)) bx1 (l32.trans (by omega)) (by decide +kernel)) (by decide), KF.tr KF.rf (KF_r 54 (rfl : ro 396 = 54) (by decide))⟩
  refine lv_aload_n E.1 E.2.1 dX11_has_38 rfl (lv_at hl 2 rfl) ?_
  refine t_get E G 11 20 (rfl : ro 386 = 11) (C := RX11) (T := TX11) (N := 37) rfl (by decide) (by decide) (by decide) mw_fl_11_39 (v := .ref (ad 396)) (fvl_o (n := 10) rfl) dX11_has_39 ?_
  refine lv_iload_n E.1 E.2.1 dX11_has_42 rfl (lv_at hl 1 rfl) ?_
  refine lv_iconst (v := 2) E.1 E.2.1 dX11_has_43 (by decide) ?_
  refine lv_iadd E.1 E.2.1 dX11_has_44 ?_
  refine lv_topi (fun v36 e37 => ?_)
  have b38 : iv 31 43 v36 := by rw [e37]; exact iv_add b7 (iv_lit (lo := 2) (hi := 2) 2 (by decide) (by decide)) (by decide) (by decide) (by decide) (by decide)
  have l39 : v36.toInt = 31 + 3 * x2.toInt := (show v36.toInt = v5.toInt + 2 by rw [e37]; exact ti_addc 2 (by decide) b7 (by decide) (by decide)).trans (by omega)
  refine lv_iload E.1 E.2.1 dX11_has_45 (lv_at hl 0 rfl) ?_
  refine lv_sipush (v := 999) E.1 E.2.1 dX11_has_47 (by decide) ?_
  refine lv_icmp_le (tgt := 59) E.1 E.2.1 dX11_has_50 (by decide) (fun c40 => ?_) (fun c40 => ?_)
  · skip
    have b41 : iv (-2147483648) 999 v19 := le_l c40 (iv_full v19) (iv_lit (lo := 999) (hi := 999) 999 (by decide) (by decide)) (by decide)
    refine lv_iload E.1 E.2.1 dX11_has_59 (lv_at hl 0 rfl) ?_
    refine t_iast E G 54 (rfl : ro 396 = 54) (by decide) (by decide) rfl (n := 127) rfl (iv_vp b38 (by decide) (by decide)) dX11_has_61 (fun H locs G => ?_)
    obtain ⟨zz42, G, oo43, kk44⟩ : ∃ u : TS, mG D A s H locs (wd K ad u) ∧ Ok u ∧ KM z u := ⟨_, G, ok_u oo34 54 (rfl : ro 396 = 54) (wr1 31 3 0 4 b41 bx2 (l39.trans (by omega)) (by decide +kernel)) (by decide), KF.tr kk35 (KF_r 54 (rfl : ro 396 = 54) (by decide))⟩
    refine lv_aload_n E.1 E.2.1 dX11_has_62 rfl (lv_at hl 2 rfl) ?_
    refine lv_iload_n E.1 E.2.1 dX11_has_63 rfl (lv_at hl 4 rfl) ?_
    refine t_vi E G hl (v_waryOf l D K ad zz42 oo43 x2 (iv_mono bx2 (by decide) (by decide))) 11 (rfl : ro 386 = 11) (by decide) rfl rfl 1 rfl mw_code_X11_waryOf mw_ini_11 mw_ml_11_320 mw_inst_X11_waryOf mw_sel_X11_waryOf hd_X11_waryOf ⟨Nat.le_trans (by decide) hfr, Nat.le_trans (by decide) hlo⟩ rfl rfl rfl (Nat.le_of_ble_eq_true rfl) dX11_has_64 (fun r46 zz45 H locs hp47 G => ?_)
    have hz48 := hp47
    rw [hz48] at G
    refine lv_bipush (v := 9) E.1 E.2.1 dX11_has_67 (by decide) ?_
    refine lv_icmp_ge (tgt := 84) E.1 E.2.1 dX11_has_69 (by decide) (fun c49 => ?_) (fun c49 => ?_)
    · skip
      have b50 : iv 9 2147483647 r46 := le_r c49 (iv_lit (lo := 9) (hi := 9) 9 (by decide) (by decide)) (iv_full r46) (by decide)
      exact RET G ⟨oo43, kk44⟩ dX11_has_84
    · skip
      have b51 : iv (-2147483648) 8 r46 := lt_l (Int32.not_le.mp c49) (iv_full r46) (iv_lit (lo := 9) (hi := 9) 9 (by decide) (by decide)) (by decide)
      refine lv_aload_n E.1 E.2.1 dX11_has_72 rfl (lv_at hl 2 rfl) ?_
      refine t_get E G 11 20 (rfl : ro 386 = 11) (C := RX11) (T := TX11) (N := 37) rfl (by decide) (by decide) (by decide) mw_fl_11_39 (v := .ref (ad 396)) (fvl_o (n := 10) rfl) dX11_has_73 ?_
      refine lv_iload_n E.1 E.2.1 dX11_has_76 rfl (lv_at hl 1 rfl) ?_
      refine lv_iconst (v := 1) E.1 E.2.1 dX11_has_77 (by decide) ?_
      refine lv_iadd E.1 E.2.1 dX11_has_78 ?_
      refine lv_topi (fun v52 e53 => ?_)
      have b54 : iv 30 42 v52 := by rw [e53]; exact iv_add b7 (iv_lit (lo := 1) (hi := 1) 1 (by decide) (by decide)) (by decide) (by decide) (by decide) (by decide)
      have l55 : v52.toInt = 30 + 3 * x2.toInt := (show v52.toInt = v5.toInt + 1 by rw [e53]; exact ti_addc 1 (by decide) b7 (by decide) (by decide)).trans (by omega)
      refine lv_dup2_11 E.1 E.2.1 dX11_has_79 rfl rfl ?_
      refine t_iald E G 54 (rfl : ro 396 = 54) (by decide) (by decide) rfl (n := 127) rfl (iv_vp b54 (by decide) (by decide)) dX11_has_80 ?_
      refine lv_topi (fun v56 e57 => ?_)
      refine lv_iconst (v := 1) E.1 E.2.1 dX11_has_81 (by decide) ?_
      refine lv_iadd E.1 E.2.1 dX11_has_82 ?_
      refine lv_topi (fun v58 e59 => ?_)
      refine t_iast E G 54 (rfl : ro 396 = 54) (by decide) (by decide) rfl (n := 127) rfl (iv_vp b54 (by decide) (by decide)) dX11_has_83 (fun H locs G => ?_)
      obtain ⟨zz60, G, oo61, kk62⟩ : ∃ u : TS, mG D A s H locs (wd K ad u) ∧ Ok u ∧ KM z u := ⟨_, G, ok_u oo43 54 (rfl : ro 396 = 54) (wr1 30 3 0 4 (iv_full v58) bx2 (l55.trans (by omega)) (by decide +kernel)) (by decide), KF.tr kk44 (KF_r 54 (rfl : ro 396 = 54) (by decide))⟩
      exact RET G ⟨oo61, kk62⟩ dX11_has_84
  · skip
    have b63 : iv 1000 2147483647 v19 := lt_r (Int32.not_le.mp c40) (iv_lit (lo := 999) (hi := 999) 999 (by decide) (by decide)) (iv_full v19) (by decide)
    refine lv_sipush (v := 999) E.1 E.2.1 dX11_has_53 (by decide) ?_
    refine lv_goto (tgt := 61) E.1 E.2.1 dX11_has_56 (by decide) ?_
    refine t_iast E G 54 (rfl : ro 396 = 54) (by decide) (by decide) rfl (n := 127) rfl (iv_vp b38 (by decide) (by decide)) dX11_has_61 (fun H locs G => ?_)
    obtain ⟨zz64, G, oo65, kk66⟩ : ∃ u : TS, mG D A s H locs (wd K ad u) ∧ Ok u ∧ KM z u := ⟨_, G, ok_u oo34 54 (rfl : ro 396 = 54) (wr1 31 3 0 4 (iv_lit (lo := 999) (hi := 999) 999 (by decide) (by decide)) bx2 (l39.trans (by omega)) (by decide +kernel)) (by decide), KF.tr kk35 (KF_r 54 (rfl : ro 396 = 54) (by decide))⟩
    refine lv_aload_n E.1 E.2.1 dX11_has_62 rfl (lv_at hl 2 rfl) ?_
    refine lv_iload_n E.1 E.2.1 dX11_has_63 rfl (lv_at hl 4 rfl) ?_
    refine t_vi E G hl (v_waryOf l D K ad zz64 oo65 x2 (iv_mono bx2 (by decide) (by decide))) 11 (rfl : ro 386 = 11) (by decide) rfl rfl 1 rfl mw_code_X11_waryOf mw_ini_11 mw_ml_11_320 mw_inst_X11_waryOf mw_sel_X11_waryOf hd_X11_waryOf ⟨Nat.le_trans (by decide) hfr, Nat.le_trans (by decide) hlo⟩ rfl rfl rfl (Nat.le_of_ble_eq_true rfl) dX11_has_64 (fun r68 zz67 H locs hp69 G => ?_)
    have hz70 := hp69
    rw [hz70] at G
    refine lv_bipush (v := 9) E.1 E.2.1 dX11_has_67 (by decide) ?_
    refine lv_icmp_ge (tgt := 84) E.1 E.2.1 dX11_has_69 (by decide) (fun c71 => ?_) (fun c71 => ?_)
    · skip
      have b72 : iv 9 2147483647 r68 := le_r c71 (iv_lit (lo := 9) (hi := 9) 9 (by decide) (by decide)) (iv_full r68) (by decide)
      exact RET G ⟨oo65, kk66⟩ dX11_has_84
    · skip
      have b73 : iv (-2147483648) 8 r68 := lt_l (Int32.not_le.mp c71) (iv_full r68) (iv_lit (lo := 9) (hi := 9) 9 (by decide) (by decide)) (by decide)
      refine lv_aload_n E.1 E.2.1 dX11_has_72 rfl (lv_at hl 2 rfl) ?_
      refine t_get E G 11 20 (rfl : ro 386 = 11) (C := RX11) (T := TX11) (N := 37) rfl (by decide) (by decide) (by decide) mw_fl_11_39 (v := .ref (ad 396)) (fvl_o (n := 10) rfl) dX11_has_73 ?_
      refine lv_iload_n E.1 E.2.1 dX11_has_76 rfl (lv_at hl 1 rfl) ?_
      refine lv_iconst (v := 1) E.1 E.2.1 dX11_has_77 (by decide) ?_
      refine lv_iadd E.1 E.2.1 dX11_has_78 ?_
      refine lv_topi (fun v74 e75 => ?_)
      have b76 : iv 30 42 v74 := by rw [e75]; exact iv_add b7 (iv_lit (lo := 1) (hi := 1) 1 (by decide) (by decide)) (by decide) (by decide) (by decide) (by decide)
      have l77 : v74.toInt = 30 + 3 * x2.toInt := (show v74.toInt = v5.toInt + 1 by rw [e75]; exact ti_addc 1 (by decide) b7 (by decide) (by decide)).trans (by omega)
      refine lv_dup2_11 E.1 E.2.1 dX11_has_79 rfl rfl ?_
      refine t_iald E G 54 (rfl : ro 396 = 54) (by decide) (by decide) rfl (n := 127) rfl (iv_vp b76 (by decide) (by decide)) dX11_has_80 ?_
      refine lv_topi (fun v78 e79 => ?_)
      refine lv_iconst (v := 1) E.1 E.2.1 dX11_has_81 (by decide) ?_
      refine lv_iadd E.1 E.2.1 dX11_has_82 ?_
      refine lv_topi (fun v80 e81 => ?_)
      refine t_iast E G 54 (rfl : ro 396 = 54) (by decide) (by decide) rfl (n := 127) rfl (iv_vp b76 (by decide) (by decide)) dX11_has_83 (fun H locs G => ?_)
      obtain ⟨zz82, G, oo83, kk84⟩ : ∃ u : TS, mG D A s H locs (wd K ad u) ∧ Ok u ∧ KM z u := ⟨_, G, ok_u oo65 54 (rfl : ro 396 = 54) (wr1 30 3 0 4 (iv_full v80) bx2 (l77.trans (by omega)) (by decide +kernel)) (by decide), KF.tr kk66 (KF_r 54 (rfl : ro 396 = 54) (by decide))⟩
      exact RET G ⟨oo83, kk84⟩ dX11_has_84
