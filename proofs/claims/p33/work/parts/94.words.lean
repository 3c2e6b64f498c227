theorem mw_cL_11_125 : (Cond.constantLong RX11 125 (131260314510706) : Cond) ∈ cw := cw_of (List.mem_append_right _ (List.mem_append_right _ (List.mem_append_right _ (List.mem_append_right _ (List.mem_append_right _ (List.mem_append_right _ (List.mem_append_left _ (List.mem_of_getElem? (i := 23) (by decide +kernel))))))))) (by decide +kernel)
theorem mw_cL_11_127 : (Cond.constantLong RX11 127 (109330312357234) : Cond) ∈ cw := cw_of (List.mem_append_right _ (List.mem_append_right _ (List.mem_append_right _ (List.mem_append_right _ (List.mem_append_right _ (List.mem_append_right _ (List.mem_append_left _ (List.mem_of_getElem? (i := 97) (by decide +kernel))))))))) (by decide +kernel)
theorem mw_cL_11_129 : (Cond.constantLong RX11 129 (1718775661) : Cond) ∈ cw := cw_of (List.mem_append_right _ (List.mem_append_right _ (List.mem_append_right _ (List.mem_append_right _ (List.mem_append_right _ (List.mem_append_right _ (List.mem_append_left _ (List.mem_of_getElem? (i := 98) (by decide +kernel))))))))) (by decide +kernel)
theorem mw_cL_11_131 : (Cond.constantLong RX11 131 (1752132965) : Cond) ∈ cw := cw_of (List.mem_append_right _ (List.mem_append_right _ (List.mem_append_right _ (List.mem_append_right _ (List.mem_append_right _ (List.mem_append_right _ (List.mem_append_left _ (List.mem_of_getElem? (i := 99) (by decide +kernel))))))))) (by decide +kernel)
theorem mw_cL_11_133 : (Cond.constantLong RX11 133 (448377483892) : Cond) ∈ cw := cw_of (List.mem_append_right _ (List.mem_append_right _ (List.mem_append_right _ (List.mem_append_right _ (List.mem_append_right _ (List.mem_append_right _ (List.mem_append_left _ (List.mem_of_getElem? (i := 100) (by decide +kernel))))))))) (by decide +kernel)
theorem mw_cL_11_135 : (Cond.constantLong RX11 135 (2002875001) : Cond) ∈ cw := cw_of (List.mem_append_right _ (List.mem_append_right _ (List.mem_append_right _ (List.mem_append_right _ (List.mem_append_right _ (List.mem_append_right _ (List.mem_append_left _ (List.mem_of_getElem? (i := 101) (by decide +kernel))))))))) (by decide +kernel)
theorem mw_cL_11_137 : (Cond.constantLong RX11 137 (109299962636133) : Cond) ∈ cw := cw_of (List.mem_append_right _ (List.mem_append_right _ (List.mem_append_right _ (List.mem_append_right _ (List.mem_append_right _ (List.mem_append_right _ (List.mem_append_left _ (List.mem_of_getElem? (i := 102) (by decide +kernel))))))))) (by decide +kernel)
theorem mw_cL_11_139 : (Cond.constantLong RX11 139 (465826899315) : Cond) ∈ cw := cw_of (List.mem_append_right _ (List.mem_append_right _ (List.mem_append_right _ (List.mem_append_right _ (List.mem_append_right _ (List.mem_append_right _ (List.mem_append_left _ (List.mem_of_getElem? (i := 103) (by decide +kernel))))))))) (by decide +kernel)
theorem mw_cL_11_141 : (Cond.constantLong RX11 141 (1835626085) : Cond) ∈ cw := cw_of (List.mem_append_right _ (List.mem_append_right _ (List.mem_append_right _ (List.mem_append_right _ (List.mem_append_right _ (List.mem_append_right _ (List.mem_append_left _ (List.mem_of_getElem? (i := 104) (by decide +kernel))))))))) (by decide +kernel)
theorem mw_cL_11_143 : (Cond.constantLong RX11 143 (122545758368371) : Cond) ∈ cw := cw_of (List.mem_append_right _ (List.mem_append_right _ (List.mem_append_right _ (List.mem_append_right _ (List.mem_append_right _ (List.mem_append_right _ (List.mem_append_left _ (List.mem_of_getElem? (i := 105) (by decide +kernel))))))))) (by decide +kernel)
theorem mw_cL_11_145 : (Cond.constantLong RX11 145 (1937007984) : Cond) ∈ cw := cw_of (List.mem_append_right _ (List.mem_append_right _ (List.mem_append_right _ (List.mem_append_right _ (List.mem_append_right _ (List.mem_append_right _ (List.mem_append_left _ (List.mem_of_getElem? (i := 106) (by decide +kernel))))))))) (by decide +kernel)
theorem mw_cL_11_223 : (Cond.constantLong RX11 223 (1953462126) : Cond) ∈ cw := cw_of (List.mem_append_right _ (List.mem_append_right _ (List.mem_append_right _ (List.mem_append_right _ (List.mem_append_right _ (List.mem_append_right _ (List.mem_append_left _ (List.mem_of_getElem? (i := 12) (by decide +kernel))))))))) (by decide +kernel)
theorem mw_cL_11_228 : (Cond.constantLong RX11 228 (7823737) : Cond) ∈ cw := cw_of (List.mem_append_right _ (List.mem_append_right _ (List.mem_append_right _ (List.mem_append_right _ (List.mem_append_right _ (List.mem_append_right _ (List.mem_append_left _ (List.mem_of_getElem? (i := 21) (by decide +kernel))))))))) (by decide +kernel)
theorem mw_cL_11_233 : (Cond.constantLong RX11 233 (1819636325) : Cond) ∈ cw := cw_of (List.mem_append_right _ (List.mem_append_right _ (List.mem_append_right _ (List.mem_append_right _ (List.mem_append_right _ (List.mem_append_right _ (List.mem_append_left _ (List.mem_of_getElem? (i := 22) (by decide +kernel))))))))) (by decide +kernel)
theorem mw_code_X11_isWord : (Cond.code yX11_isWord cX11_isWord 6 (some .boolean) : Cond) ∈ cw := cw_of (List.mem_append_right _ (List.mem_append_right _ (List.mem_append_right _ (List.mem_append_right _ (List.mem_append_right _ (List.mem_append_right _ (List.mem_append_left _ (List.mem_of_getElem? (i := 16) rfl)))))))) (by decide +kernel)
theorem mw_code_X11_passWord : (Cond.code yX11_passWord cX11_passWord 1 none : Cond) ∈ cw := cw_of (List.mem_append_right _ (List.mem_append_right _ (List.mem_append_right _ (List.mem_append_right _ (List.mem_append_right _ (List.mem_append_right _ (List.mem_append_left _ (List.mem_of_getElem? (i := 40) rfl)))))))) (by decide +kernel)
theorem mw_inst_X11_isWord : (Cond.instanceMethod yX11_isWord : Cond) ∈ cw := cw_of (List.mem_append_right _ (List.mem_append_right _ (List.mem_append_right _ (List.mem_append_right _ (List.mem_append_right _ (List.mem_append_right _ (List.mem_append_left _ (List.mem_of_getElem? (i := 15) (by decide +kernel))))))))) (by decide +kernel)
theorem mw_inst_X11_passWord : (Cond.instanceMethod yX11_passWord : Cond) ∈ cw := cw_of (List.mem_append_right _ (List.mem_append_right _ (List.mem_append_right _ (List.mem_append_right _ (List.mem_append_right _ (List.mem_append_right _ (List.mem_append_left _ (List.mem_of_getElem? (i := 39) (by decide +kernel))))))))) (by decide +kernel)
theorem mw_ml_11_104 : (Cond.methodLink RX11 104 yX11_isWord : Cond) ∈ cw := cw_of (List.mem_append_right _ (List.mem_append_right _ (List.mem_append_right _ (List.mem_append_right _ (List.mem_append_right _ (List.mem_append_right _ (List.mem_append_left _ (List.mem_of_getElem? (i := 13) (by decide +kernel))))))))) (by decide +kernel)
theorem mw_ml_11_108 : (Cond.methodLink RX11 108 yX11_passWord : Cond) ∈ cw := cw_of (List.mem_append_right _ (List.mem_append_right _ (List.mem_append_right _ (List.mem_append_right _ (List.mem_append_right _ (List.mem_append_right _ (List.mem_append_left _ (List.mem_of_getElem? (i := 37) (by decide +kernel))))))))) (by decide +kernel)
theorem mw_sel_X11_isWord : (Cond.selects RX11 yX11_isWord yX11_isWord : Cond) ∈ cw := cw_of (List.mem_append_left _ (List.mem_of_getElem? (i := 52) (by decide +kernel))) (by decide +kernel)
theorem mw_sel_X11_passWord : (Cond.selects RX11 yX11_passWord yX11_passWord : Cond) ∈ cw := cw_of (List.mem_append_left _ (List.mem_of_getElem? (i := 57) (by decide +kernel))) (by decide +kernel)
theorem dX11_isTownWord_0 : decode cX11_isTownWord 0 = .ok (.aload_n 0, 1) := by decide +kernel
theorem dX11_isTownWord_1 : decode cX11_isTownWord 1 = .ok (.ldc2_w 223, 3) := by decide +kernel
theorem dX11_isTownWord_4 : decode cX11_isTownWord 4 = .ok (.invokevirtual 104, 3) := by decide +kernel
theorem dX11_isTownWord_7 : decode cX11_isTownWord 7 = .ok (.ifCond .ne 33, 3) := by decide +kernel
theorem dX11_isTownWord_10 : decode cX11_isTownWord 10 = .ok (.aload_n 0, 1) := by decide +kernel
theorem dX11_isTownWord_11 : decode cX11_isTownWord 11 = .ok (.ldc2_w 228, 3) := by decide +kernel
theorem dX11_isTownWord_14 : decode cX11_isTownWord 14 = .ok (.invokevirtual 104, 3) := by decide +kernel
theorem dX11_isTownWord_17 : decode cX11_isTownWord 17 = .ok (.ifCond .ne 23, 3) := by decide +kernel
theorem dX11_isTownWord_20 : decode cX11_isTownWord 20 = .ok (.aload_n 0, 1) := by decide +kernel
theorem dX11_isTownWord_21 : decode cX11_isTownWord 21 = .ok (.ldc2_w 233, 3) := by decide +kernel
theorem dX11_isTownWord_24 : decode cX11_isTownWord 24 = .ok (.invokevirtual 104, 3) := by decide +kernel
theorem dX11_isTownWord_27 : decode cX11_isTownWord 27 = .ok (.ifCond .ne 13, 3) := by decide +kernel
theorem dX11_isTownWord_30 : decode cX11_isTownWord 30 = .ok (.aload_n 0, 1) := by decide +kernel
theorem dX11_isTownWord_31 : decode cX11_isTownWord 31 = .ok (.ldc2_w 125, 3) := by decide +kernel
theorem dX11_isTownWord_34 : decode cX11_isTownWord 34 = .ok (.invokevirtual 104, 3) := by decide +kernel
theorem dX11_isTownWord_37 : decode cX11_isTownWord 37 = .ok (.ifCond .eq 7, 3) := by decide +kernel
theorem dX11_isTownWord_40 : decode cX11_isTownWord 40 = .ok (.iconst 1, 1) := by decide +kernel
theorem dX11_isTownWord_41 : decode cX11_isTownWord 41 = .ok (.goto 4, 3) := by decide +kernel
theorem dX11_isTownWord_44 : decode cX11_isTownWord 44 = .ok (.iconst 0, 1) := by decide +kernel
theorem dX11_isTownWord_45 : decode cX11_isTownWord 45 = .ok (.ireturn, 1) := by decide +kernel
theorem dX11_takesWord_0 : decode cX11_takesWord 0 = .ok (.aload_n 0, 1) := by decide +kernel
theorem dX11_takesWord_1 : decode cX11_takesWord 1 = .ok (.lload_n 1, 1) := by decide +kernel
theorem dX11_takesWord_2 : decode cX11_takesWord 2 = .ok (.invokevirtual 104, 3) := by decide +kernel
theorem dX11_takesWord_5 : decode cX11_takesWord 5 = .ok (.ifCond .ne 5, 3) := by decide +kernel
theorem dX11_takesWord_8 : decode cX11_takesWord 8 = .ok (.iconst 0, 1) := by decide +kernel
theorem dX11_takesWord_9 : decode cX11_takesWord 9 = .ok (.ireturn, 1) := by decide +kernel
theorem dX11_takesWord_10 : decode cX11_takesWord 10 = .ok (.aload_n 0, 1) := by decide +kernel
theorem dX11_takesWord_11 : decode cX11_takesWord 11 = .ok (.invokevirtual 108, 3) := by decide +kernel
theorem dX11_takesWord_14 : decode cX11_takesWord 14 = .ok (.iconst 1, 1) := by decide +kernel
theorem dX11_takesWord_15 : decode cX11_takesWord 15 = .ok (.ireturn, 1) := by decide +kernel
theorem dX11_wordHere_0 : decode cX11_wordHere 0 = .ok (.aload_n 0, 1) := by decide +kernel
theorem dX11_wordHere_1 : decode cX11_wordHere 1 = .ok (.ldc2_w 125, 3) := by decide +kernel
theorem dX11_wordHere_4 : decode cX11_wordHere 4 = .ok (.invokevirtual 104, 3) := by decide +kernel
theorem dX11_wordHere_7 : decode cX11_wordHere 7 = .ok (.ifCond .eq 5, 3) := by decide +kernel
theorem dX11_wordHere_10 : decode cX11_wordHere 10 = .ok (.iconst 0, 1) := by decide +kernel
theorem dX11_wordHere_11 : decode cX11_wordHere 11 = .ok (.ireturn, 1) := by decide +kernel
theorem dX11_wordHere_12 : decode cX11_wordHere 12 = .ok (.aload_n 0, 1) := by decide +kernel
theorem dX11_wordHere_13 : decode cX11_wordHere 13 = .ok (.ldc2_w 127, 3) := by decide +kernel
theorem dX11_wordHere_16 : decode cX11_wordHere 16 = .ok (.invokevirtual 104, 3) := by decide +kernel
theorem dX11_wordHere_19 : decode cX11_wordHere 19 = .ok (.ifCond .eq 5, 3) := by decide +kernel
theorem dX11_wordHere_22 : decode cX11_wordHere 22 = .ok (.iconst 1, 1) := by decide +kernel
theorem dX11_wordHere_23 : decode cX11_wordHere 23 = .ok (.ireturn, 1) := by decide +kernel
theorem dX11_wordHere_24 : decode cX11_wordHere 24 = .ok (.aload_n 0, 1) := by decide +kernel
theorem dX11_wordHere_25 : decode cX11_wordHere 25 = .ok (.ldc2_w 129, 3) := by decide +kernel
theorem dX11_wordHere_28 : decode cX11_wordHere 28 = .ok (.invokevirtual 104, 3) := by decide +kernel
theorem dX11_wordHere_31 : decode cX11_wordHere 31 = .ok (.ifCond .eq 5, 3) := by decide +kernel
theorem dX11_wordHere_34 : decode cX11_wordHere 34 = .ok (.iconst 2, 1) := by decide +kernel
theorem dX11_wordHere_35 : decode cX11_wordHere 35 = .ok (.ireturn, 1) := by decide +kernel
theorem dX11_wordHere_36 : decode cX11_wordHere 36 = .ok (.aload_n 0, 1) := by decide +kernel
theorem dX11_wordHere_37 : decode cX11_wordHere 37 = .ok (.ldc2_w 131, 3) := by decide +kernel
theorem dX11_wordHere_40 : decode cX11_wordHere 40 = .ok (.invokevirtual 104, 3) := by decide +kernel
theorem dX11_wordHere_43 : decode cX11_wordHere 43 = .ok (.ifCond .eq 5, 3) := by decide +kernel
theorem dX11_wordHere_46 : decode cX11_wordHere 46 = .ok (.iconst 3, 1) := by decide +kernel
theorem dX11_wordHere_47 : decode cX11_wordHere 47 = .ok (.ireturn, 1) := by decide +kernel
theorem dX11_wordHere_48 : decode cX11_wordHere 48 = .ok (.aload_n 0, 1) := by decide +kernel
theorem dX11_wordHere_49 : decode cX11_wordHere 49 = .ok (.ldc2_w 133, 3) := by decide +kernel
theorem dX11_wordHere_52 : decode cX11_wordHere 52 = .ok (.invokevirtual 104, 3) := by decide +kernel
theorem dX11_wordHere_55 : decode cX11_wordHere 55 = .ok (.ifCond .eq 5, 3) := by decide +kernel
theorem dX11_wordHere_58 : decode cX11_wordHere 58 = .ok (.iconst 4, 1) := by decide +kernel
theorem dX11_wordHere_59 : decode cX11_wordHere 59 = .ok (.ireturn, 1) := by decide +kernel
theorem dX11_wordHere_60 : decode cX11_wordHere 60 = .ok (.aload_n 0, 1) := by decide +kernel
theorem dX11_wordHere_61 : decode cX11_wordHere 61 = .ok (.ldc2_w 135, 3) := by decide +kernel
theorem dX11_wordHere_64 : decode cX11_wordHere 64 = .ok (.invokevirtual 104, 3) := by decide +kernel
theorem dX11_wordHere_67 : decode cX11_wordHere 67 = .ok (.ifCond .eq 5, 3) := by decide +kernel
theorem dX11_wordHere_70 : decode cX11_wordHere 70 = .ok (.iconst 5, 1) := by decide +kernel
theorem dX11_wordHere_71 : decode cX11_wordHere 71 = .ok (.ireturn, 1) := by decide +kernel
theorem dX11_wordHere_72 : decode cX11_wordHere 72 = .ok (.aload_n 0, 1) := by decide +kernel
theorem dX11_wordHere_73 : decode cX11_wordHere 73 = .ok (.ldc2_w 137, 3) := by decide +kernel
theorem dX11_wordHere_76 : decode cX11_wordHere 76 = .ok (.invokevirtual 104, 3) := by decide +kernel
theorem dX11_wordHere_79 : decode cX11_wordHere 79 = .ok (.ifCond .eq 6, 3) := by decide +kernel
theorem dX11_wordHere_82 : decode cX11_wordHere 82 = .ok (.bipush 6, 2) := by decide +kernel
theorem dX11_wordHere_84 : decode cX11_wordHere 84 = .ok (.ireturn, 1) := by decide +kernel
theorem dX11_wordHere_85 : decode cX11_wordHere 85 = .ok (.aload_n 0, 1) := by decide +kernel
theorem dX11_wordHere_86 : decode cX11_wordHere 86 = .ok (.ldc2_w 139, 3) := by decide +kernel
theorem dX11_wordHere_89 : decode cX11_wordHere 89 = .ok (.invokevirtual 104, 3) := by decide +kernel
theorem dX11_wordHere_92 : decode cX11_wordHere 92 = .ok (.ifCond .eq 6, 3) := by decide +kernel
theorem dX11_wordHere_95 : decode cX11_wordHere 95 = .ok (.bipush 7, 2) := by decide +kernel
theorem dX11_wordHere_97 : decode cX11_wordHere 97 = .ok (.ireturn, 1) := by decide +kernel
theorem dX11_wordHere_98 : decode cX11_wordHere 98 = .ok (.aload_n 0, 1) := by decide +kernel
theorem dX11_wordHere_99 : decode cX11_wordHere 99 = .ok (.ldc2_w 141, 3) := by decide +kernel
theorem dX11_wordHere_102 : decode cX11_wordHere 102 = .ok (.invokevirtual 104, 3) := by decide +kernel
theorem dX11_wordHere_105 : decode cX11_wordHere 105 = .ok (.ifCond .eq 6, 3) := by decide +kernel
theorem dX11_wordHere_108 : decode cX11_wordHere 108 = .ok (.bipush 8, 2) := by decide +kernel
theorem dX11_wordHere_110 : decode cX11_wordHere 110 = .ok (.ireturn, 1) := by decide +kernel
theorem dX11_wordHere_111 : decode cX11_wordHere 111 = .ok (.aload_n 0, 1) := by decide +kernel
theorem dX11_wordHere_112 : decode cX11_wordHere 112 = .ok (.ldc2_w 143, 3) := by decide +kernel
theorem dX11_wordHere_115 : decode cX11_wordHere 115 = .ok (.invokevirtual 104, 3) := by decide +kernel
theorem dX11_wordHere_118 : decode cX11_wordHere 118 = .ok (.ifCond .eq 8, 3) := by decide +kernel
theorem dX11_wordHere_121 : decode cX11_wordHere 121 = .ok (.bipush 9, 2) := by decide +kernel
theorem dX11_wordHere_123 : decode cX11_wordHere 123 = .ok (.goto 19, 3) := by decide +kernel
theorem dX11_wordHere_126 : decode cX11_wordHere 126 = .ok (.aload_n 0, 1) := by decide +kernel
theorem dX11_wordHere_127 : decode cX11_wordHere 127 = .ok (.ldc2_w 145, 3) := by decide +kernel
theorem dX11_wordHere_130 : decode cX11_wordHere 130 = .ok (.invokevirtual 104, 3) := by decide +kernel
theorem dX11_wordHere_133 : decode cX11_wordHere 133 = .ok (.ifCond .eq 8, 3) := by decide +kernel
theorem dX11_wordHere_136 : decode cX11_wordHere 136 = .ok (.bipush 10, 2) := by decide +kernel
theorem dX11_wordHere_138 : decode cX11_wordHere 138 = .ok (.goto 4, 3) := by decide +kernel
theorem dX11_wordHere_141 : decode cX11_wordHere 141 = .ok (.iconst (-1), 1) := by decide +kernel
theorem dX11_wordHere_142 : decode cX11_wordHere 142 = .ok (.ireturn, 1) := by decide +kernel
theorem hd_X11_isWord : yX11_isWord.cls ≠ "java/lang/invoke/MethodHandle" ∧ yX11_isWord.cls ≠ "java/lang/invoke/VarHandle" ∧ (parseMethodDescriptor yX11_isWord.desc).map (fun d => d.parameters.length) = some 1 := ⟨by decide +kernel, by decide +kernel, by decide +kernel⟩
theorem hd_X11_passWord : yX11_passWord.cls ≠ "java/lang/invoke/MethodHandle" ∧ yX11_passWord.cls ≠ "java/lang/invoke/VarHandle" ∧ (parseMethodDescriptor yX11_passWord.desc).map (fun d => d.parameters.length) = some 0 := ⟨by decide +kernel, by decide +kernel, by decide +kernel⟩
set_option maxHeartbeats 4000000 in
set_option maxRecDepth 100000 in
theorem v_takesWord (l : Launch) (D : va_G) (K : Nat → ClassId) (ad : Nat → Nat) (z : TS) (o : Ok z) (w1 : Int64) (hn : NXx z) : cI l yX11_takesWord cX11_takesWord 3 .boolean ({ frames := 2, cells := 0, slots := 0, locals := 46 }) D K ad z [.ref (ad 386), .long w1] (fun r u => Ok u ∧ KN8 z u ∧ iv 0 1 r ∧ (Scx z u)) := by
  have sc0 : Scx z z := Scx.rf hn
  refine t_enterI (by decide) (Nat.le_of_ble_eq_true rfl) rfl rfl ?_
  intro p e s m args below meth c A R Q H locs ls E hfr hlo RET G hl
  have E : mE p s m meth c cX11_takesWord args 3 RX11 D K A := E
  have hl : lv_has ls 3 [(0, .ref (ad 386)), (1, .long w1)] := hl
  refine lv_aload_n E.1 E.2.1 dX11_takesWord_0 rfl (lv_at hl 0 rfl) ?_
  refine lv_lload_n E.1 E.2.1 dX11_takesWord_1 rfl (lv_at hl 1 rfl) ?_
  refine t_vi E G hl (v_isWord l D K ad z o w1 sc0.1) 11 (rfl : ro 386 = 11) (by decide) rfl rfl 1 rfl mw_code_X11_isWord mw_ini_11 mw_ml_11_104 mw_inst_X11_isWord mw_sel_X11_isWord hd_X11_isWord ⟨Nat.le_trans (by decide) hfr, Nat.le_trans (by decide) hlo⟩ rfl rfl rfl (Nat.le_of_ble_eq_true rfl) dX11_takesWord_2 (fun r2 zz1 H locs hp3 G => ?_)
  obtain ⟨oo4, kk5, b6, h7, h8, h9, h10⟩ := hp3
  have kk11 : KN8 z zz1 := KF.tr KF.rf kk5
  have h12 := Scx.tr sc0 h7
  refine lv_if_ne (tgt := 10) E.1 E.2.1 dX11_takesWord_5 (by decide) (fun c13 => ?_) (fun c13 => ?_)
  · skip
    have b14 : iv 1 1 r2 := ne_lo c13 b6 (by decide) (by decide)
    refine lv_aload_n E.1 E.2.1 dX11_takesWord_10 rfl (lv_at hl 0 rfl) ?_
    refine t_vv E G hl (v_passWord l D K ad zz1 oo4 h12.1) 11 (rfl : ro 386 = 11) (by decide) rfl rfl 0 rfl mw_code_X11_passWord mw_ini_11 mw_ml_11_108 mw_inst_X11_passWord mw_sel_X11_passWord hd_X11_passWord ⟨Nat.le_trans (by decide) hfr, Nat.le_trans (by decide) hlo⟩ rfl rfl rfl (Nat.le_of_ble_eq_true rfl) dX11_takesWord_11 (fun zz15 H locs hp17 G => ?_)
    obtain ⟨oo18, kk19, h20, h21⟩ := hp17
    have kk22 : KN8 z zz15 := KF.tr kk11 kk19
    have h23 := Scx.tr h12 h20
    refine lv_iconst (v := 1) E.1 E.2.1 dX11_takesWord_14 (by decide) ?_
    exact RET G ⟨oo18, kk22, (iv_mono (iv_lit (lo := 1) (hi := 1) 1 (by decide) (by decide)) (by decide) (by decide)), h23⟩ (by decide) dX11_takesWord_15
  · skip
    have b24 : iv 0 0 r2 := iv_eq c13 (iv_lit (lo := 0) (hi := 0) 0 (by decide) (by decide))
    refine lv_iconst (v := 0) E.1 E.2.1 dX11_takesWord_8 (by decide) ?_
    exact RET G ⟨oo4, kk11, (iv_mono (iv_lit (lo := 0) (hi := 0) 0 (by decide) (by decide)) (by decide) (by decide)), h12⟩ (by decide) dX11_takesWord_9
set_option maxHeartbeats 4000000 in
set_option maxRecDepth 100000 in
theorem v_wordHere (l : Launch) (D : va_G) (K : Nat → ClassId) (ad : Nat → Nat) (z : TS) (o : Ok z) (hn : NXx z) : cI l yX11_wordHere cX11_wordHere 1 .int ({ frames := 2, cells := 0, slots := 0, locals := 46 }) D K ad z [.ref (ad 386)] (fun r u => Ok u ∧ KN8 z u ∧ iv (-1) 10 r ∧ (Scx z u) ∧ (0 ≤ r.toInt → LTx u)) := by
  have sc0 : Scx z z := Scx.rf hn
  refine t_enterI (by decide) (Nat.le_of_ble_eq_true rfl) rfl rfl ?_
  intro p e s m args below meth c A R Q H locs ls E hfr hlo RET G hl
  have E : mE p s m meth c cX11_wordHere args 1 RX11 D K A := E
  have hl : lv_has ls 1 [(0, .ref (ad 386))] := hl
  refine lv_aload_n E.1 E.2.1 dX11_wordHere_0 rfl (lv_at hl 0 rfl) ?_
  refine lv_ldc2 (v := 131260314510706) E.1 E.2.1 E.2.2.2.1 (E.2.2.2.2.1 _ mw_cL_11_125) dX11_wordHere_1 ?_
  refine t_vi E G hl (v_isWord l D K ad z o 131260314510706 sc0.1) 11 (rfl : ro 386 = 11) (by decide) rfl rfl 1 rfl mw_code_X11_isWord mw_ini_11 mw_ml_11_104 mw_inst_X11_isWord mw_sel_X11_isWord hd_X11_isWord ⟨Nat.le_trans (by decide) hfr, Nat.le_trans (by decide) hlo⟩ rfl rfl rfl (Nat.le_of_ble_eq_true rfl) dX11_wordHere_4 (fun r2 zz1 H locs hp3 G => ?_)
  obtain ⟨oo4, kk5, b6, h7, h8, h9, h10⟩ := hp3
  have kk11 : KN8 z zz1 := KF.tr KF.rf kk5
  have h12 := Scx.tr sc0 h7
  refine lv_if_eq (tgt := 12) E.1 E.2.1 dX11_wordHere_7 (by decide) (fun c13 => ?_) (fun c13 => ?_)
  · skip
    have b14 : iv 0 0 r2 := iv_eq c13 (iv_lit (lo := 0) (hi := 0) 0 (by decide) (by decide))
    refine lv_aload_n E.1 E.2.1 dX11_wordHere_12 rfl (lv_at hl 0 rfl) ?_
    refine lv_ldc2 (v := 109330312357234) E.1 E.2.1 E.2.2.2.1 (E.2.2.2.2.1 _ mw_cL_11_127) dX11_wordHere_13 ?_
    refine t_vi E G hl (v_isWord l D K ad zz1 oo4 109330312357234 h12.1) 11 (rfl : ro 386 = 11) (by decide) rfl rfl 1 rfl mw_code_X11_isWord mw_ini_11 mw_ml_11_104 mw_inst_X11_isWord mw_sel_X11_isWord hd_X11_isWord ⟨Nat.le_trans (by decide) hfr, Nat.le_trans (by decide) hlo⟩ rfl rfl rfl (Nat.le_of_ble_eq_true rfl) dX11_wordHere_16 (fun r16 zz15 H locs hp17 G => ?_)
    obtain ⟨oo18, kk19, b20, h21, h22, h23, h24⟩ := hp17
    have kk25 : KN8 z zz15 := KF.tr kk11 kk19
    have h26 := Scx.tr h12 h21
    refine lv_if_eq (tgt := 24) E.1 E.2.1 dX11_wordHere_19 (by decide) (fun c27 => ?_) (fun c27 => ?_)
    · skip
      have b28 : iv 0 0 r16 := iv_eq c27 (iv_lit (lo := 0) (hi := 0) 0 (by decide) (by decide))
      refine lv_aload_n E.1 E.2.1 dX11_wordHere_24 rfl (lv_at hl 0 rfl) ?_
      refine lv_ldc2 (v := 1718775661) E.1 E.2.1 E.2.2.2.1 (E.2.2.2.2.1 _ mw_cL_11_129) dX11_wordHere_25 ?_
      refine t_vi E G hl (v_isWord l D K ad zz15 oo18 1718775661 h26.1) 11 (rfl : ro 386 = 11) (by decide) rfl rfl 1 rfl mw_code_X11_isWord mw_ini_11 mw_ml_11_104 mw_inst_X11_isWord mw_sel_X11_isWord hd_X11_isWord ⟨Nat.le_trans (by decide) hfr, Nat.le_trans (by decide) hlo⟩ rfl rfl rfl (Nat.le_of_ble_eq_true rfl) dX11_wordHere_28 (fun r30 zz29 H locs hp31 G => ?_)
      obtain ⟨oo32, kk33, b34, h35, h36, h37, h38⟩ := hp31
      have kk39 : KN8 z zz29 := KF.tr kk25 kk33
      have h40 := Scx.tr h26 h35
      refine lv_if_eq (tgt := 36) E.1 E.2.1 dX11_wordHere_31 (by decide) (fun c41 => ?_) (fun c41 => ?_)
      · skip
        have b42 : iv 0 0 r30 := iv_eq c41 (iv_lit (lo := 0) (hi := 0) 0 (by decide) (by decide))
        refine lv_aload_n E.1 E.2.1 dX11_wordHere_36 rfl (lv_at hl 0 rfl) ?_
        refine lv_ldc2 (v := 1752132965) E.1 E.2.1 E.2.2.2.1 (E.2.2.2.2.1 _ mw_cL_11_131) dX11_wordHere_37 ?_
        refine t_vi E G hl (v_isWord l D K ad zz29 oo32 1752132965 h40.1) 11 (rfl : ro 386 = 11) (by decide) rfl rfl 1 rfl mw_code_X11_isWord mw_ini_11 mw_ml_11_104 mw_inst_X11_isWord mw_sel_X11_isWord hd_X11_isWord ⟨Nat.le_trans (by decide) hfr, Nat.le_trans (by decide) hlo⟩ rfl rfl rfl (Nat.le_of_ble_eq_true rfl) dX11_wordHere_40 (fun r44 zz43 H locs hp45 G => ?_)
        obtain ⟨oo46, kk47, b48, h49, h50, h51, h52⟩ := hp45
        have kk53 : KN8 z zz43 := KF.tr kk39 kk47
        have h54 := Scx.tr h40 h49
        refine lv_if_eq (tgt := 48) E.1 E.2.1 dX11_wordHere_43 (by decide) (fun c55 => ?_) (fun c55 => ?_)
        · skip
          have b56 : iv 0 0 r44 := iv_eq c55 (iv_lit (lo := 0) (hi := 0) 0 (by decide) (by decide))
          refine lv_aload_n E.1 E.2.1 dX11_wordHere_48 rfl (lv_at hl 0 rfl) ?_
          refine lv_ldc2 (v := 448377483892) E.1 E.2.1 E.2.2.2.1 (E.2.2.2.2.1 _ mw_cL_11_133) dX11_wordHere_49 ?_
          refine t_vi E G hl (v_isWord l D K ad zz43 oo46 448377483892 h54.1) 11 (rfl : ro 386 = 11) (by decide) rfl rfl 1 rfl mw_code_X11_isWord mw_ini_11 mw_ml_11_104 mw_inst_X11_isWord mw_sel_X11_isWord hd_X11_isWord ⟨Nat.le_trans (by decide) hfr, Nat.le_trans (by decide) hlo⟩ rfl rfl rfl (Nat.le_of_ble_eq_true rfl) dX11_wordHere_52 (fun r58 zz57 H locs hp59 G => ?_)
          obtain ⟨oo60, kk61, b62, h63, h64, h65, h66⟩ := hp59
          have kk67 : KN8 z zz57 := KF.tr kk53 kk61
          have h68 := Scx.tr h54 h63
          refine lv_if_eq (tgt := 60) E.1 E.2.1 dX11_wordHere_55 (by decide) (fun c69 => ?_) (fun c69 => ?_)
          · skip
            have b70 : iv 0 0 r58 := iv_eq c69 (iv_lit (lo := 0) (hi := 0) 0 (by decide) (by decide))
            refine lv_aload_n E.1 E.2.1 dX11_wordHere_60 rfl (lv_at hl 0 rfl) ?_
            refine lv_ldc2 (v := 2002875001) E.1 E.2.1 E.2.2.2.1 (E.2.2.2.2.1 _ mw_cL_11_135) dX11_wordHere_61 ?_
            refine t_vi E G hl (v_isWord l D K ad zz57 oo60 2002875001 h68.1) 11 (rfl : ro 386 = 11) (by decide) rfl rfl 1 rfl mw_code_X11_isWord mw_ini_11 mw_ml_11_104 mw_inst_X11_isWord mw_sel_X11_isWord hd_X11_isWord ⟨Nat.le_trans (by decide) hfr, Nat.le_trans (by decide) hlo⟩ rfl rfl rfl (Nat.le_of_ble_eq_true rfl) dX11_wordHere_64 (fun r72 zz71 H locs hp73 G => ?_)
            obtain ⟨oo74, kk75, b76, h77, h78, h79, h80⟩ := hp73
            have kk81 : KN8 z zz71 := KF.tr kk67 kk75
            have h82 := Scx.tr h68 h77
            refine lv_if_eq (tgt := 72) E.1 E.2.1 dX11_wordHere_67 (by decide) (fun c83 => ?_) (fun c83 => ?_)
            · skip
              have b84 : iv 0 0 r72 := iv_eq c83 (iv_lit (lo := 0) (hi := 0) 0 (by decide) (by decide))
              refine lv_aload_n E.1 E.2.1 dX11_wordHere_72 rfl (lv_at hl 0 rfl) ?_
              refine lv_ldc2 (v := 109299962636133) E.1 E.2.1 E.2.2.2.1 (E.2.2.2.2.1 _ mw_cL_11_137) dX11_wordHere_73 ?_
              refine t_vi E G hl (v_isWord l D K ad zz71 oo74 109299962636133 h82.1) 11 (rfl : ro 386 = 11) (by decide) rfl rfl 1 rfl mw_code_X11_isWord mw_ini_11 mw_ml_11_104 mw_inst_X11_isWord mw_sel_X11_isWord hd_X11_isWord ⟨Nat.le_trans (by decide) hfr, Nat.le_trans (by decide) hlo⟩ rfl rfl rfl (Nat.le_of_ble_eq_true rfl) dX11_wordHere_76 (fun r86 zz85 H locs hp87 G => ?_)
              obtain ⟨oo88, kk89, b90, h91, h92, h93, h94⟩ := hp87
              have kk95 : KN8 z zz85 := KF.tr kk81 kk89
              have h96 := Scx.tr h82 h91
              refine lv_if_eq (tgt := 85) E.1 E.2.1 dX11_wordHere_79 (by decide) (fun c97 => ?_) (fun c97 => ?_)
              · skip
                have b98 : iv 0 0 r86 := iv_eq c97 (iv_lit (lo := 0) (hi := 0) 0 (by decide) (by decide))
                refine lv_aload_n E.1 E.2.1 dX11_wordHere_85 rfl (lv_at hl 0 rfl) ?_
                refine lv_ldc2 (v := 465826899315) E.1 E.2.1 E.2.2.2.1 (E.2.2.2.2.1 _ mw_cL_11_139) dX11_wordHere_86 ?_
                refine t_vi E G hl (v_isWord l D K ad zz85 oo88 465826899315 h96.1) 11 (rfl : ro 386 = 11) (by decide) rfl rfl 1 rfl mw_code_X11_isWord mw_ini_11 mw_ml_11_104 mw_inst_X11_isWord mw_sel_X11_isWord hd_X11_isWord ⟨Nat.le_trans (by decide) hfr, Nat.le_trans (by decide) hlo⟩ rfl rfl rfl (Nat.le_of_ble_eq_true rfl) dX11_wordHere_89 (fun r100 zz99 H locs hp101 G => ?_)
                obtain ⟨oo102, kk103, b104, h105, h106, h107, h108⟩ := hp101
                have kk109 : KN8 z zz99 := KF.tr kk95 kk103
                have h110 := Scx.tr h96 h105
                refine lv_if_eq (tgt := 98) E.1 E.2.1 dX11_wordHere_92 (by decide) (fun c111 => ?_) (fun c111 => ?_)
                · skip
                  have b112 : iv 0 0 r100 := iv_eq c111 (iv_lit (lo := 0) (hi := 0) 0 (by decide) (by decide))
                  refine lv_aload_n E.1 E.2.1 dX11_wordHere_98 rfl (lv_at hl 0 rfl) ?_
                  refine lv_ldc2 (v := 1835626085) E.1 E.2.1 E.2.2.2.1 (E.2.2.2.2.1 _ mw_cL_11_141) dX11_wordHere_99 ?_
                  refine t_vi E G hl (v_isWord l D K ad zz99 oo102 1835626085 h110.1) 11 (rfl : ro 386 = 11) (by decide) rfl rfl 1 rfl mw_code_X11_isWord mw_ini_11 mw_ml_11_104 mw_inst_X11_isWord mw_sel_X11_isWord hd_X11_isWord ⟨Nat.le_trans (by decide) hfr, Nat.le_trans (by decide) hlo⟩ rfl rfl rfl (Nat.le_of_ble_eq_true rfl) dX11_wordHere_102 (fun r114 zz113 H locs hp115 G => ?_)
                  obtain ⟨oo116, kk117, b118, h119, h120, h121, h122⟩ := hp115
                  have kk123 : KN8 z zz113 := KF.tr kk109 kk117
                  have h124 := Scx.tr h110 h119
                  refine lv_if_eq (tgt := 111) E.1 E.2.1 dX11_wordHere_105 (by decide) (fun c125 => ?_) (fun c125 => ?_)
                  · skip
                    have b126 : iv 0 0 r114 := iv_eq c125 (iv_lit (lo := 0) (hi := 0) 0 (by decide) (by decide))
                    refine lv_aload_n E.1 E.2.1 dX11_wordHere_111 rfl (lv_at hl 0 rfl) ?_
                    refine lv_ldc2 (v := 122545758368371) E.1 E.2.1 E.2.2.2.1 (E.2.2.2.2.1 _ mw_cL_11_143) dX11_wordHere_112 ?_
                    refine t_vi E G hl (v_isWord l D K ad zz113 oo116 122545758368371 h124.1) 11 (rfl : ro 386 = 11) (by decide) rfl rfl 1 rfl mw_code_X11_isWord mw_ini_11 mw_ml_11_104 mw_inst_X11_isWord mw_sel_X11_isWord hd_X11_isWord ⟨Nat.le_trans (by decide) hfr, Nat.le_trans (by decide) hlo⟩ rfl rfl rfl (Nat.le_of_ble_eq_true rfl) dX11_wordHere_115 (fun r128 zz127 H locs hp129 G => ?_)
                    obtain ⟨oo130, kk131, b132, h133, h134, h135, h136⟩ := hp129
                    have kk137 : KN8 z zz127 := KF.tr kk123 kk131
                    have h138 := Scx.tr h124 h133
                    refine lv_if_eq (tgt := 126) E.1 E.2.1 dX11_wordHere_118 (by decide) (fun c139 => ?_) (fun c139 => ?_)
                    · skip
                      have b140 : iv 0 0 r128 := iv_eq c139 (iv_lit (lo := 0) (hi := 0) 0 (by decide) (by decide))
                      refine lv_aload_n E.1 E.2.1 dX11_wordHere_126 rfl (lv_at hl 0 rfl) ?_
                      refine lv_ldc2 (v := 1937007984) E.1 E.2.1 E.2.2.2.1 (E.2.2.2.2.1 _ mw_cL_11_145) dX11_wordHere_127 ?_
                      refine t_vi E G hl (v_isWord l D K ad zz127 oo130 1937007984 h138.1) 11 (rfl : ro 386 = 11) (by decide) rfl rfl 1 rfl mw_code_X11_isWord mw_ini_11 mw_ml_11_104 mw_inst_X11_isWord mw_sel_X11_isWord hd_X11_isWord ⟨Nat.le_trans (by decide) hfr, Nat.le_trans (by decide) hlo⟩ rfl rfl rfl (Nat.le_of_ble_eq_true rfl) dX11_wordHere_130 (fun r142 zz141 H locs hp143 G => ?_)
                      obtain ⟨oo144, kk145, b146, h147, h148, h149, h150⟩ := hp143
                      have kk151 : KN8 z zz141 := KF.tr kk137 kk145
                      have h152 := Scx.tr h138 h147
                      refine lv_if_eq (tgt := 141) E.1 E.2.1 dX11_wordHere_133 (by decide) (fun c153 => ?_) (fun c153 => ?_)
                      · skip
                        have b154 : iv 0 0 r142 := iv_eq c153 (iv_lit (lo := 0) (hi := 0) 0 (by decide) (by decide))
                        refine lv_iconst (v := (-1)) E.1 E.2.1 dX11_wordHere_141 (by decide) ?_
                        exact RET G ⟨oo144, kk151, (iv_mono (iv_lit (lo := (-1)) (hi := (-1)) (-1) (by decide) (by decide)) (by decide) (by decide)), h152, (fun q => absurd q (by decide))⟩ rfl dX11_wordHere_142
                      · skip
                        have b155 : iv 1 1 r142 := ne_lo c153 b146 (by decide) (by decide)
                        refine lv_bipush (v := 10) E.1 E.2.1 dX11_wordHere_136 (by decide) ?_
                        refine lv_goto (tgt := 142) E.1 E.2.1 dX11_wordHere_138 (by decide) ?_
                        exact RET G ⟨oo144, kk151, (iv_mono (iv_lit (lo := 10) (hi := 10) 10 (by decide) (by decide)) (by decide) (by decide)), h152, (fun _ => h150 c153)⟩ rfl dX11_wordHere_142
                    · skip
                      have b156 : iv 1 1 r128 := ne_lo c139 b132 (by decide) (by decide)
                      refine lv_bipush (v := 9) E.1 E.2.1 dX11_wordHere_121 (by decide) ?_
                      refine lv_goto (tgt := 142) E.1 E.2.1 dX11_wordHere_123 (by decide) ?_
                      exact RET G ⟨oo130, kk137, (iv_mono (iv_lit (lo := 9) (hi := 9) 9 (by decide) (by decide)) (by decide) (by decide)), h138, (fun _ => h136 c139)⟩ rfl dX11_wordHere_142
                  · skip
                    have b157 : iv 1 1 r114 := ne_lo c125 b118 (by decide) (by decide)
                    refine lv_bipush (v := 8) E.1 E.2.1 dX11_wordHere_108 (by decide) ?_
                    exact RET G ⟨oo116, kk123, (iv_mono (iv_lit (lo := 8) (hi := 8) 8 (by decide) (by decide)) (by decide) (by decide)), h124, (fun _ => h122 c125)⟩ rfl dX11_wordHere_110
                · skip
                  have b158 : iv 1 1 r100 := ne_lo c111 b104 (by decide) (by decide)
                  refine lv_bipush (v := 7) E.1 E.2.1 dX11_wordHere_95 (by decide) ?_
                  exact RET G ⟨oo102, kk109, (iv_mono (iv_lit (lo := 7) (hi := 7) 7 (by decide) (by decide)) (by decide) (by decide)), h110, (fun _ => h108 c111)⟩ rfl dX11_wordHere_97
              · skip
                have b159 : iv 1 1 r86 := ne_lo c97 b90 (by decide) (by decide)
                refine lv_bipush (v := 6) E.1 E.2.1 dX11_wordHere_82 (by decide) ?_
                exact RET G ⟨oo88, kk95, (iv_mono (iv_lit (lo := 6) (hi := 6) 6 (by decide) (by decide)) (by decide) (by decide)), h96, (fun _ => h94 c97)⟩ rfl dX11_wordHere_84
            · skip
              have b160 : iv 1 1 r72 := ne_lo c83 b76 (by decide) (by decide)
              refine lv_iconst (v := 5) E.1 E.2.1 dX11_wordHere_70 (by decide) ?_
              exact RET G ⟨oo74, kk81, (iv_mono (iv_lit (lo := 5) (hi := 5) 5 (by decide) (by decide)) (by decide) (by decide)), h82, (fun _ => h80 c83)⟩ rfl dX11_wordHere_71
          · skip
            have b161 : iv 1 1 r58 := ne_lo c69 b62 (by decide) (by decide)
            refine lv_iconst (v := 4) E.1 E.2.1 dX11_wordHere_58 (by decide) ?_
            exact RET G ⟨oo60, kk67, (iv_mono (iv_lit (lo := 4) (hi := 4) 4 (by decide) (by decide)) (by decide) (by decide)), h68, (fun _ => h66 c69)⟩ rfl dX11_wordHere_59
        · skip
          have b162 : iv 1 1 r44 := ne_lo c55 b48 (by decide) (by decide)
          refine lv_iconst (v := 3) E.1 E.2.1 dX11_wordHere_46 (by decide) ?_
          exact RET G ⟨oo46, kk53, (iv_mono (iv_lit (lo := 3) (hi := 3) 3 (by decide) (by decide)) (by decide) (by decide)), h54, (fun _ => h52 c55)⟩ rfl dX11_wordHere_47
      · skip
        have b163 : iv 1 1 r30 := ne_lo c41 b34 (by decide) (by decide)
        refine lv_iconst (v := 2) E.1 E.2.1 dX11_wordHere_34 (by decide) ?_
        exact RET G ⟨oo32, kk39, (iv_mono (iv_lit (lo := 2) (hi := 2) 2 (by decide) (by decide)) (by decide) (by decide)), h40, (fun _ => h38 c41)⟩ rfl dX11_wordHere_35
    · skip
      have b164 : iv 1 1 r16 := ne_lo c27 b20 (by decide) (by decide)
      refine lv_iconst (v := 1) E.1 E.2.1 dX11_wordHere_22 (by decide) ?_
      exact RET G ⟨oo18, kk25, (iv_mono (iv_lit (lo := 1) (hi := 1) 1 (by decide) (by decide)) (by decide) (by decide)), h26, (fun _ => h24 c27)⟩ rfl dX11_wordHere_23
  · skip
    have b165 : iv 1 1 r2 := ne_lo c13 b6 (by decide) (by decide)
    refine lv_iconst (v := 0) E.1 E.2.1 dX11_wordHere_10 (by decide) ?_
    exact RET G ⟨oo4, kk11, (iv_mono (iv_lit (lo := 0) (hi := 0) 0 (by decide) (by decide)) (by decide) (by decide)), h12, (fun _ => h10 c13)⟩ rfl dX11_wordHere_11
set_option maxHeartbeats 4000000 in
set_option maxRecDepth 100000 in
theorem v_isTownWord (l : Launch) (D : va_G) (K : Nat → ClassId) (ad : Nat → Nat) (z : TS) (o : Ok z) (hn : NXx z) : cI l yX11_isTownWord cX11_isTownWord 1 .boolean ({ frames := 2, cells := 0, slots := 0, locals := 46 }) D K ad z [.ref (ad 386)] (fun r u => Ok u ∧ KN8 z u ∧ iv 0 1 r ∧ (Scx z u) ∧ (¬ r = 0 → LTx u)) := by
  have sc0 : Scx z z := Scx.rf hn
  refine t_enterI (by decide) (Nat.le_of_ble_eq_true rfl) rfl rfl ?_
  intro p e s m args below meth c A R Q H locs ls E hfr hlo RET G hl
  have E : mE p s m meth c cX11_isTownWord args 1 RX11 D K A := E
  have hl : lv_has ls 1 [(0, .ref (ad 386))] := hl
  refine lv_aload_n E.1 E.2.1 dX11_isTownWord_0 rfl (lv_at hl 0 rfl) ?_
  refine lv_ldc2 (v := 1953462126) E.1 E.2.1 E.2.2.2.1 (E.2.2.2.2.1 _ mw_cL_11_223) dX11_isTownWord_1 ?_
  refine t_vi E G hl (v_isWord l D K ad z o 1953462126 sc0.1) 11 (rfl : ro 386 = 11) (by decide) rfl rfl 1 rfl mw_code_X11_isWord mw_ini_11 mw_ml_11_104 mw_inst_X11_isWord mw_sel_X11_isWord hd_X11_isWord ⟨Nat.le_trans (by decide) hfr, Nat.le_trans (by decide) hlo⟩ rfl rfl rfl (Nat.le_of_ble_eq_true rfl) dX11_isTownWord_4 (fun r2 zz1 H locs hp3 G => ?_)
  obtain ⟨oo4, kk5, b6, h7, h8, h9, h10⟩ := hp3
  have kk11 : KN8 z zz1 := KF.tr KF.rf kk5
  have h12 := Scx.tr sc0 h7
  refine lv_if_ne (tgt := 40) E.1 E.2.1 dX11_isTownWord_7 (by decide) (fun c13 => ?_) (fun c13 => ?_)
  · skip
    have b14 : iv 1 1 r2 := ne_lo c13 b6 (by decide) (by decide)
    refine lv_iconst (v := 1) E.1 E.2.1 dX11_isTownWord_40 (by decide) ?_
    refine lv_goto (tgt := 45) E.1 E.2.1 dX11_isTownWord_41 (by decide) ?_
    exact RET G ⟨oo4, kk11, (iv_mono (iv_lit (lo := 1) (hi := 1) 1 (by decide) (by decide)) (by decide) (by decide)), h12, (fun _ => h10 c13)⟩ (by decide) dX11_isTownWord_45
  · skip
    have b15 : iv 0 0 r2 := iv_eq c13 (iv_lit (lo := 0) (hi := 0) 0 (by decide) (by decide))
    refine lv_aload_n E.1 E.2.1 dX11_isTownWord_10 rfl (lv_at hl 0 rfl) ?_
    refine lv_ldc2 (v := 7823737) E.1 E.2.1 E.2.2.2.1 (E.2.2.2.2.1 _ mw_cL_11_228) dX11_isTownWord_11 ?_
    refine t_vi E G hl (v_isWord l D K ad zz1 oo4 7823737 h12.1) 11 (rfl : ro 386 = 11) (by decide) rfl rfl 1 rfl mw_code_X11_isWord mw_ini_11 mw_ml_11_104 mw_inst_X11_isWord mw_sel_X11_isWord hd_X11_isWord ⟨Nat.le_trans (by decide) hfr, Nat.le_trans (by decide) hlo⟩ rfl rfl rfl (Nat.le_of_ble_eq_true rfl) dX11_isTownWord_14 (fun r17 zz16 H locs hp18 G => ?_)
    obtain ⟨oo19, kk20, b21, h22, h23, h24, h25⟩ := hp18
    have kk26 : KN8 z zz16 := KF.tr kk11 kk20
    have h27 := Scx.tr h12 h22
    refine lv_if_ne (tgt := 40) E.1 E.2.1 dX11_isTownWord_17 (by decide) (fun c28 => ?_) (fun c28 => ?_)
    · skip
      have b29 : iv 1 1 r17 := ne_lo c28 b21 (by decide) (by decide)
      refine lv_iconst (v := 1) E.1 E.2.1 dX11_isTownWord_40 (by decide) ?_
      refine lv_goto (tgt := 45) E.1 E.2.1 dX11_isTownWord_41 (by decide) ?_
      exact RET G ⟨oo19, kk26, (iv_mono (iv_lit (lo := 1) (hi := 1) 1 (by decide) (by decide)) (by decide) (by decide)), h27, (fun _ => h25 c28)⟩ (by decide) dX11_isTownWord_45
    · skip
      have b30 : iv 0 0 r17 := iv_eq c28 (iv_lit (lo := 0) (hi := 0) 0 (by decide) (by decide))
      refine lv_aload_n E.1 E.2.1 dX11_isTownWord_20 rfl (lv_at hl 0 rfl) ?_
      refine lv_ldc2 (v := 1819636325) E.1 E.2.1 E.2.2.2.1 (E.2.2.2.2.1 _ mw_cL_11_233) dX11_isTownWord_21 ?_
      refine t_vi E G hl (v_isWord l D K ad zz16 oo19 1819636325 h27.1) 11 (rfl : ro 386 = 11) (by decide) rfl rfl 1 rfl mw_code_X11_isWord mw_ini_11 mw_ml_11_104 mw_inst_X11_isWord mw_sel_X11_isWord hd_X11_isWord ⟨Nat.le_trans (by decide) hfr, Nat.le_trans (by decide) hlo⟩ rfl rfl rfl (Nat.le_of_ble_eq_true rfl) dX11_isTownWord_24 (fun r32 zz31 H locs hp33 G => ?_)
      obtain ⟨oo34, kk35, b36, h37, h38, h39, h40⟩ := hp33
      have kk41 : KN8 z zz31 := KF.tr kk26 kk35
      have h42 := Scx.tr h27 h37
      refine lv_if_ne (tgt := 40) E.1 E.2.1 dX11_isTownWord_27 (by decide) (fun c43 => ?_) (fun c43 => ?_)
      · skip
        have b44 : iv 1 1 r32 := ne_lo c43 b36 (by decide) (by decide)
        refine lv_iconst (v := 1) E.1 E.2.1 dX11_isTownWord_40 (by decide) ?_
        refine lv_goto (tgt := 45) E.1 E.2.1 dX11_isTownWord_41 (by decide) ?_
        exact RET G ⟨oo34, kk41, (iv_mono (iv_lit (lo := 1) (hi := 1) 1 (by decide) (by decide)) (by decide) (by decide)), h42, (fun _ => h40 c43)⟩ (by decide) dX11_isTownWord_45
      · skip
        have b45 : iv 0 0 r32 := iv_eq c43 (iv_lit (lo := 0) (hi := 0) 0 (by decide) (by decide))
        refine lv_aload_n E.1 E.2.1 dX11_isTownWord_30 rfl (lv_at hl 0 rfl) ?_
        refine lv_ldc2 (v := 131260314510706) E.1 E.2.1 E.2.2.2.1 (E.2.2.2.2.1 _ mw_cL_11_125) dX11_isTownWord_31 ?_
        refine t_vi E G hl (v_isWord l D K ad zz31 oo34 131260314510706 h42.1) 11 (rfl : ro 386 = 11) (by decide) rfl rfl 1 rfl mw_code_X11_isWord mw_ini_11 mw_ml_11_104 mw_inst_X11_isWord mw_sel_X11_isWord hd_X11_isWord ⟨Nat.le_trans (by decide) hfr, Nat.le_trans (by decide) hlo⟩ rfl rfl rfl (Nat.le_of_ble_eq_true rfl) dX11_isTownWord_34 (fun r47 zz46 H locs hp48 G => ?_)
        obtain ⟨oo49, kk50, b51, h52, h53, h54, h55⟩ := hp48
        have kk56 : KN8 z zz46 := KF.tr kk41 kk50
        have h57 := Scx.tr h42 h52
        refine lv_if_eq (tgt := 44) E.1 E.2.1 dX11_isTownWord_37 (by decide) (fun c58 => ?_) (fun c58 => ?_)
        · skip
          have b59 : iv 0 0 r47 := iv_eq c58 (iv_lit (lo := 0) (hi := 0) 0 (by decide) (by decide))
          refine lv_iconst (v := 0) E.1 E.2.1 dX11_isTownWord_44 (by decide) ?_
          exact RET G ⟨oo49, kk56, (iv_mono (iv_lit (lo := 0) (hi := 0) 0 (by decide) (by decide)) (by decide) (by decide)), h57, (fun q => absurd rfl q)⟩ (by decide) dX11_isTownWord_45
        · skip
          have b60 : iv 1 1 r47 := ne_lo c58 b51 (by decide) (by decide)
          refine lv_iconst (v := 1) E.1 E.2.1 dX11_isTownWord_40 (by decide) ?_
          refine lv_goto (tgt := 45) E.1 E.2.1 dX11_isTownWord_41 (by decide) ?_
          exact RET G ⟨oo49, kk56, (iv_mono (iv_lit (lo := 1) (hi := 1) 1 (by decide) (by decide)) (by decide) (by decide)), h57, (fun _ => h55 c58)⟩ (by decide) dX11_isTownWord_45
