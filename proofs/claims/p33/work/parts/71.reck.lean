theorem mw_code_X11_one : (Cond.code yX11_one cX11_one 5 (some .long) : Cond) ∈ cw := cw_of (List.mem_append_right _ (List.mem_append_right _ (List.mem_append_right _ (List.mem_append_right _ (List.mem_append_right _ (List.mem_append_right _ (List.mem_append_right _ (List.mem_append_left _ (List.mem_of_getElem? (i := 39) rfl))))))))) (by decide +kernel)
theorem mw_code_X11_pop : (Cond.code yX11_pop cX11_pop 1 (some .long) : Cond) ∈ cw := cw_of (List.mem_append_right _ (List.mem_append_right _ (List.mem_append_right _ (List.mem_append_right _ (List.mem_append_right _ (List.mem_append_right _ (List.mem_append_right _ (List.mem_append_left _ (List.mem_of_getElem? (i := 36) rfl))))))))) (by decide +kernel)
theorem mw_code_X11_push : (Cond.code yX11_push cX11_push 3 none : Cond) ∈ cw := cw_of (List.mem_append_right _ (List.mem_append_right _ (List.mem_append_right _ (List.mem_append_right _ (List.mem_append_right _ (List.mem_append_right _ (List.mem_append_right _ (List.mem_append_left _ (List.mem_of_getElem? (i := 32) rfl))))))))) (by decide +kernel)
theorem mw_fl_11_13 : (Cond.fieldLink RX11 13 "LureTownModel" "sign" "[I" : Cond) ∈ cw := cw_of (List.mem_append_right _ (List.mem_append_right _ (List.mem_append_right _ (List.mem_append_right _ (List.mem_append_right _ (List.mem_append_left _ (List.mem_of_getElem? (i := 110) (by decide +kernel)))))))) (by decide +kernel)
theorem mw_fl_11_36 : (Cond.fieldLink RX11 36 "LureTownModel" "word" "[J" : Cond) ∈ cw := cw_of (List.mem_append_right _ (List.mem_append_right _ (List.mem_append_right _ (List.mem_append_right _ (List.mem_append_right _ (List.mem_append_left _ (List.mem_of_getElem? (i := 126) (by decide +kernel)))))))) (by decide +kernel)
theorem mw_inst_X11_pop : (Cond.instanceMethod yX11_pop : Cond) ∈ cw := cw_of (List.mem_append_right _ (List.mem_append_right _ (List.mem_append_right _ (List.mem_append_right _ (List.mem_append_right _ (List.mem_append_right _ (List.mem_append_right _ (List.mem_append_left _ (List.mem_of_getElem? (i := 35) (by decide +kernel)))))))))) (by decide +kernel)
theorem mw_inst_X11_push : (Cond.instanceMethod yX11_push : Cond) ∈ cw := cw_of (List.mem_append_right _ (List.mem_append_right _ (List.mem_append_right _ (List.mem_append_right _ (List.mem_append_right _ (List.mem_append_right _ (List.mem_append_right _ (List.mem_append_left _ (List.mem_of_getElem? (i := 31) (by decide +kernel)))))))))) (by decide +kernel)
theorem mw_ml_11_273 : (Cond.methodLink RX11 273 yX11_push : Cond) ∈ cw := cw_of (List.mem_append_right _ (List.mem_append_right _ (List.mem_append_right _ (List.mem_append_right _ (List.mem_append_right _ (List.mem_append_right _ (List.mem_append_right _ (List.mem_append_left _ (List.mem_of_getElem? (i := 29) (by decide +kernel)))))))))) (by decide +kernel)
theorem mw_ml_11_277 : (Cond.methodLink RX11 277 yX11_pop : Cond) ∈ cw := cw_of (List.mem_append_right _ (List.mem_append_right _ (List.mem_append_right _ (List.mem_append_right _ (List.mem_append_right _ (List.mem_append_right _ (List.mem_append_right _ (List.mem_append_left _ (List.mem_of_getElem? (i := 33) (by decide +kernel)))))))))) (by decide +kernel)
theorem mw_ml_11_281 : (Cond.methodLink RX11 281 yX11_one : Cond) ∈ cw := cw_of (List.mem_append_right _ (List.mem_append_right _ (List.mem_append_right _ (List.mem_append_right _ (List.mem_append_right _ (List.mem_append_right _ (List.mem_append_right _ (List.mem_append_left _ (List.mem_of_getElem? (i := 37) (by decide +kernel)))))))))) (by decide +kernel)
theorem mw_sel_X11_pop : (Cond.selects RX11 yX11_pop yX11_pop : Cond) ∈ cw := cw_of (List.mem_append_left _ (List.mem_of_getElem? (i := 103) (by decide +kernel))) (by decide +kernel)
theorem mw_sel_X11_push : (Cond.selects RX11 yX11_push yX11_push : Cond) ∈ cw := cw_of (List.mem_append_left _ (List.mem_of_getElem? (i := 102) (by decide +kernel))) (by decide +kernel)
theorem mw_stat_X11_one : (Cond.static yX11_one : Cond) ∈ cw := cw_of (List.mem_append_right _ (List.mem_append_right _ (List.mem_append_right _ (List.mem_append_right _ (List.mem_append_right _ (List.mem_append_right _ (List.mem_append_right _ (List.mem_append_left _ (List.mem_of_getElem? (i := 38) (by decide +kernel)))))))))) (by decide +kernel)
theorem dX11_reckons_0 : decode cX11_reckons 0 = .ok (.aload_n 0, 1) := by decide +kernel
theorem dX11_reckons_1 : decode cX11_reckons 1 = .ok (.iconst 0, 1) := by decide +kernel
theorem dX11_reckons_2 : decode cX11_reckons 2 = .ok (.putfield 270, 3) := by decide +kernel
theorem dX11_reckons_5 : decode cX11_reckons 5 = .ok (.iload_n 2, 1) := by decide +kernel
theorem dX11_reckons_6 : decode cX11_reckons 6 = .ok (.istore 4, 2) := by decide +kernel
theorem dX11_reckons_8 : decode cX11_reckons 8 = .ok (.iload 4, 2) := by decide +kernel
theorem dX11_reckons_10 : decode cX11_reckons 10 = .ok (.iload_n 3, 1) := by decide +kernel
theorem dX11_reckons_11 : decode cX11_reckons 11 = .ok (.if_icmp .ge 124, 3) := by decide +kernel
theorem dX11_reckons_14 : decode cX11_reckons 14 = .ok (.aload_n 0, 1) := by decide +kernel
theorem dX11_reckons_15 : decode cX11_reckons 15 = .ok (.getfield 13, 3) := by decide +kernel
theorem dX11_reckons_18 : decode cX11_reckons 18 = .ok (.sipush 400, 3) := by decide +kernel
theorem dX11_reckons_21 : decode cX11_reckons 21 = .ok (.iload_n 1, 1) := by decide +kernel
theorem dX11_reckons_22 : decode cX11_reckons 22 = .ok (.imul, 1) := by decide +kernel
theorem dX11_reckons_23 : decode cX11_reckons 23 = .ok (.iload 4, 2) := by decide +kernel
theorem dX11_reckons_25 : decode cX11_reckons 25 = .ok (.iadd, 1) := by decide +kernel
theorem dX11_reckons_26 : decode cX11_reckons 26 = .ok (.iaload, 1) := by decide +kernel
theorem dX11_reckons_27 : decode cX11_reckons 27 = .ok (.bipush 15, 2) := by decide +kernel
theorem dX11_reckons_29 : decode cX11_reckons 29 = .ok (.iand, 1) := by decide +kernel
theorem dX11_reckons_30 : decode cX11_reckons 30 = .ok (.istore 5, 2) := by decide +kernel
theorem dX11_reckons_32 : decode cX11_reckons 32 = .ok (.aload_n 0, 1) := by decide +kernel
theorem dX11_reckons_33 : decode cX11_reckons 33 = .ok (.getfield 13, 3) := by decide +kernel
theorem dX11_reckons_36 : decode cX11_reckons 36 = .ok (.sipush 400, 3) := by decide +kernel
theorem dX11_reckons_39 : decode cX11_reckons 39 = .ok (.iload_n 1, 1) := by decide +kernel
theorem dX11_reckons_40 : decode cX11_reckons 40 = .ok (.imul, 1) := by decide +kernel
theorem dX11_reckons_41 : decode cX11_reckons 41 = .ok (.iload 4, 2) := by decide +kernel
theorem dX11_reckons_43 : decode cX11_reckons 43 = .ok (.iadd, 1) := by decide +kernel
theorem dX11_reckons_44 : decode cX11_reckons 44 = .ok (.iaload, 1) := by decide +kernel
theorem dX11_reckons_45 : decode cX11_reckons 45 = .ok (.iconst 4, 1) := by decide +kernel
theorem dX11_reckons_46 : decode cX11_reckons 46 = .ok (.ishr, 1) := by decide +kernel
theorem dX11_reckons_47 : decode cX11_reckons 47 = .ok (.istore 6, 2) := by decide +kernel
theorem dX11_reckons_49 : decode cX11_reckons 49 = .ok (.iload 5, 2) := by decide +kernel
theorem dX11_reckons_51 : decode cX11_reckons 51 = .ok (.ifCond .ne 13, 3) := by decide +kernel
theorem dX11_reckons_54 : decode cX11_reckons 54 = .ok (.aload_n 0, 1) := by decide +kernel
theorem dX11_reckons_55 : decode cX11_reckons 55 = .ok (.iload 6, 2) := by decide +kernel
theorem dX11_reckons_57 : decode cX11_reckons 57 = .ok (.i2l, 1) := by decide +kernel
theorem dX11_reckons_58 : decode cX11_reckons 58 = .ok (.invokevirtual 273, 3) := by decide +kernel
theorem dX11_reckons_61 : decode cX11_reckons 61 = .ok (.goto 68, 3) := by decide +kernel
theorem dX11_reckons_64 : decode cX11_reckons 64 = .ok (.iload 5, 2) := by decide +kernel
theorem dX11_reckons_66 : decode cX11_reckons 66 = .ok (.iconst 1, 1) := by decide +kernel
theorem dX11_reckons_67 : decode cX11_reckons 67 = .ok (.if_icmp .ne 17, 3) := by decide +kernel
theorem dX11_reckons_70 : decode cX11_reckons 70 = .ok (.aload_n 0, 1) := by decide +kernel
theorem dX11_reckons_71 : decode cX11_reckons 71 = .ok (.aload_n 0, 1) := by decide +kernel
theorem dX11_reckons_72 : decode cX11_reckons 72 = .ok (.getfield 36, 3) := by decide +kernel
theorem dX11_reckons_75 : decode cX11_reckons 75 = .ok (.iload 6, 2) := by decide +kernel
theorem dX11_reckons_77 : decode cX11_reckons 77 = .ok (.laload, 1) := by decide +kernel
theorem dX11_reckons_78 : decode cX11_reckons 78 = .ok (.invokevirtual 273, 3) := by decide +kernel
theorem dX11_reckons_81 : decode cX11_reckons 81 = .ok (.goto 48, 3) := by decide +kernel
theorem dX11_reckons_84 : decode cX11_reckons 84 = .ok (.iload 5, 2) := by decide +kernel
theorem dX11_reckons_86 : decode cX11_reckons 86 = .ok (.bipush 11, 2) := by decide +kernel
theorem dX11_reckons_88 : decode cX11_reckons 88 = .ok (.if_icmp .ne 16, 3) := by decide +kernel
theorem dX11_reckons_91 : decode cX11_reckons 91 = .ok (.aload_n 0, 1) := by decide +kernel
theorem dX11_reckons_92 : decode cX11_reckons 92 = .ok (.lconst 1, 1) := by decide +kernel
theorem dX11_reckons_93 : decode cX11_reckons 93 = .ok (.aload_n 0, 1) := by decide +kernel
theorem dX11_reckons_94 : decode cX11_reckons 94 = .ok (.invokevirtual 277, 3) := by decide +kernel
theorem dX11_reckons_97 : decode cX11_reckons 97 = .ok (.lsub, 1) := by decide +kernel
theorem dX11_reckons_98 : decode cX11_reckons 98 = .ok (.invokevirtual 273, 3) := by decide +kernel
theorem dX11_reckons_101 : decode cX11_reckons 101 = .ok (.goto 28, 3) := by decide +kernel
theorem dX11_reckons_104 : decode cX11_reckons 104 = .ok (.aload_n 0, 1) := by decide +kernel
theorem dX11_reckons_105 : decode cX11_reckons 105 = .ok (.invokevirtual 277, 3) := by decide +kernel
theorem dX11_reckons_108 : decode cX11_reckons 108 = .ok (.lstore 7, 2) := by decide +kernel
theorem dX11_reckons_110 : decode cX11_reckons 110 = .ok (.aload_n 0, 1) := by decide +kernel
theorem dX11_reckons_111 : decode cX11_reckons 111 = .ok (.invokevirtual 277, 3) := by decide +kernel
theorem dX11_reckons_114 : decode cX11_reckons 114 = .ok (.lstore 9, 2) := by decide +kernel
theorem dX11_reckons_116 : decode cX11_reckons 116 = .ok (.aload_n 0, 1) := by decide +kernel
theorem dX11_reckons_117 : decode cX11_reckons 117 = .ok (.iload 5, 2) := by decide +kernel
theorem dX11_reckons_119 : decode cX11_reckons 119 = .ok (.lload 9, 2) := by decide +kernel
theorem dX11_reckons_121 : decode cX11_reckons 121 = .ok (.lload 7, 2) := by decide +kernel
theorem dX11_reckons_123 : decode cX11_reckons 123 = .ok (.invokestatic 281, 3) := by decide +kernel
theorem dX11_reckons_126 : decode cX11_reckons 126 = .ok (.invokevirtual 273, 3) := by decide +kernel
theorem dX11_reckons_129 : decode cX11_reckons 129 = .ok (.iinc 4 1, 3) := by decide +kernel
theorem dX11_reckons_132 : decode cX11_reckons 132 = .ok (.goto (-124), 3) := by decide +kernel
theorem dX11_reckons_135 : decode cX11_reckons 135 = .ok (.aload_n 0, 1) := by decide +kernel
theorem dX11_reckons_136 : decode cX11_reckons 136 = .ok (.invokevirtual 277, 3) := by decide +kernel
theorem dX11_reckons_139 : decode cX11_reckons 139 = .ok (.lreturn, 1) := by decide +kernel
theorem hd_X11_one : yX11_one.cls ≠ "java/lang/invoke/MethodHandle" ∧ yX11_one.cls ≠ "java/lang/invoke/VarHandle" ∧ (parseMethodDescriptor yX11_one.desc).map (fun d => d.parameters.length) = some 3 := ⟨by decide +kernel, by decide +kernel, by decide +kernel⟩
theorem hd_X11_pop : yX11_pop.cls ≠ "java/lang/invoke/MethodHandle" ∧ yX11_pop.cls ≠ "java/lang/invoke/VarHandle" ∧ (parseMethodDescriptor yX11_pop.desc).map (fun d => d.parameters.length) = some 0 := ⟨by decide +kernel, by decide +kernel, by decide +kernel⟩
theorem hd_X11_push : yX11_push.cls ≠ "java/lang/invoke/MethodHandle" ∧ yX11_push.cls ≠ "java/lang/invoke/VarHandle" ∧ (parseMethodDescriptor yX11_push.desc).map (fun d => d.parameters.length) = some 1 := ⟨by decide +kernel, by decide +kernel, by decide +kernel⟩
set_option maxHeartbeats 4000000 in
set_option maxRecDepth 100000 in
theorem v_reckons (l : Launch) (D : va_G) (K : Nat → ClassId) (ad : Nat → Nat) (z : TS) (o : Ok z) (x1 : Int32) (bx1 : iv 0 5 x1) (x2 : Int32) (bx2 : iv 0 400 x2) (x3 : Int32) (bx3 : iv 0 400 x3) (hc : clk (sgn z x1.toNatClampNeg) x2.toNatClampNeg x3.toNatClampNeg) : cL l yX11_reckons cX11_reckons 11 ({ frames := 1, cells := 0, slots := 0, locals := 24 }) D K ad z [.ref (ad 386), .int x1, .int x2, .int x3] (fun r u => Ok u ∧ KQ z u) := by
  refine t_enterL (by decide) (Nat.le_of_ble_eq_true rfl) rfl rfl ?_
  intro p e s m args below meth c A R Q H locs ls E hfr hlo RET G hl
  have E : mE p s m meth c cX11_reckons args 11 RX11 D K A := E
  have hl : lv_has ls 11 [(0, .ref (ad 386)), (1, .int x1), (2, .int x2), (3, .int x3)] := hl
  refine lv_aload_n E.1 E.2.1 dX11_reckons_0 rfl (lv_at hl 0 rfl) ?_
  refine lv_iconst (v := 0) E.1 E.2.1 dX11_reckons_1 (by decide) ?_
  refine t_puti E G 11 18 (rfl : ro 386 = 11) (C := RX11) (T := TX11) (N := 37) rfl (by decide) (by decide) (by decide) rfl rfl mw_fl_11_270 rfl dX11_reckons_2 (fun H locs G => ?_)
  obtain ⟨zz1, G, oo2, kk3, h4⟩ : ∃ u : TS, mG D A s H locs (wd K ad u) ∧ Ok u ∧ KQ z u ∧ tI u 386 18 = 0 := ⟨_, G, ok_i o 11 (rfl : ro 386 = 11) (iv_mono (iv_lit (lo := 0) (hi := 0) 0 (by decide) (by decide)) (by decide) (by decide)) (by decide), KF.tr KF.rf (KF_i 11 (rfl : ro 386 = 11) (by decide)), sI_self⟩
  refine lv_iload_n E.1 E.2.1 dX11_reckons_5 rfl (lv_at hl 2 rfl) ?_
  refine lv_istore (lv' := [(4, .int x2), (0, .ref (ad 386)), (1, .int x1), (2, .int x2), (3, .int x3)]) E.1 E.2.1 dX11_reckons_6 hl (by decide) rfl (fun ls hl => ?_)
  have LOOP8 : ∀ n : Nat, ∀ (zz6 : TS) (y5 : Int32) (H : Heap) (locs : List Loc) (ls : Array Slot), mG D A s H locs (wd K ad zz6) → Ok zz6 → KQ z zz6 → iv 0 400 y5 → x2.toInt ≤ y5.toInt → y5.toInt ≤ x3.toInt → (tI zz6 386 18).toInt = Gt (sgn z x1.toNatClampNeg) y5.toNatClampNeg - Gt (sgn z x1.toNatClampNeg) x2.toNatClampNeg → 400 < y5.toInt + (n : Int) → lv_has ls 11 [(4, .int y5), (0, .ref (ad 386)), (1, .int x1), (2, .int x2), (3, .int x3)] → W p l e R s m args below meth c H locs 0 0 Q (F0 m 8 ls []) := by
    intro n
    induction n with
    | zero =>
      intro zz6 y5 H locs ls G oo7 kk8 b10 h11 h12 h13 m9 hl
      exact absurd m9 (by have := b10.1; have := b10.2; omega)
    | succ n ih8 =>
      intro zz6 y5 H locs ls G oo7 kk8 b10 h11 h12 h13 m9 hl
      refine lv_iload E.1 E.2.1 dX11_reckons_8 (lv_at hl 0 rfl) ?_
      refine lv_iload_n E.1 E.2.1 dX11_reckons_10 rfl (lv_at hl 4 rfl) ?_
      refine lv_icmp_ge (tgt := 135) E.1 E.2.1 dX11_reckons_11 (by decide) (fun c14 => ?_) (fun c14 => ?_)
      · skip
        refine lv_aload_n E.1 E.2.1 dX11_reckons_135 rfl (lv_at hl 1 rfl) ?_
        refine t_vl E G hl (v_pop l D K ad zz6 oo7 (rk_end hc bx3 h12 c14 h13)) 11 (rfl : ro 386 = 11) (by decide) rfl rfl 0 rfl mw_code_X11_pop mw_ini_11 mw_ml_11_277 mw_inst_X11_pop mw_sel_X11_pop hd_X11_pop ⟨Nat.le_trans (by decide) hfr, Nat.le_trans (by decide) hlo⟩ rfl rfl rfl (Nat.le_of_ble_eq_true rfl) dX11_reckons_136 (fun r16 zz15 H locs hp17 G => ?_)
        obtain ⟨oo18, kk19, h20⟩ := hp17
        have kk21 : KQ z zz15 := KF.tr kk8 kk19
        exact RET G ⟨oo18, kk21⟩ dX11_reckons_139
      · skip
        have b22 : iv 0 399 y5 := lt_l (Int32.not_le.mp c14) b10 bx3 (by decide)
        have b23 : iv 1 400 x3 := lt_r (Int32.not_le.mp c14) b10 bx3 (by decide)
        refine lv_aload_n E.1 E.2.1 dX11_reckons_14 rfl (lv_at hl 1 rfl) ?_
        refine t_get E G 11 3 (rfl : ro 386 = 11) (C := RX11) (T := TX11) (N := 37) rfl (by decide) (by decide) (by decide) mw_fl_11_13 (v := .ref (ad 388)) (fvl_o (n := 2) rfl) dX11_reckons_15 ?_
        refine lv_sipush (v := 400) E.1 E.2.1 dX11_reckons_18 (by decide) ?_
        refine lv_iload_n E.1 E.2.1 dX11_reckons_21 rfl (lv_at hl 2 rfl) ?_
        refine lv_imul E.1 E.2.1 dX11_reckons_22 ?_
        refine lv_topi (fun v24 e25 => ?_)
        have b26 : iv 0 2000 v24 := by rw [e25]; exact iv_mulc' bx1 400 (by decide) (by decide) (by decide) (by decide) (by decide) (by decide)
        have l27 : v24.toInt = 0 + 400 * x1.toInt := (show v24.toInt = 400 * x1.toInt by rw [e25]; exact ti_cmul 400 (by decide) (by decide) bx1 (by decide) (by decide)).trans (by omega)
        refine lv_iload E.1 E.2.1 dX11_reckons_23 (lv_at hl 0 rfl) ?_
        refine lv_iadd E.1 E.2.1 dX11_reckons_25 ?_
        refine lv_topi (fun v28 e29 => ?_)
        have b30 : iv 0 2399 v28 := by rw [e29]; exact iv_add b26 b22 (by decide) (by decide) (by decide) (by decide)
        have l31 : v28.toInt = 0 + 400 * x1.toInt + 1 * y5.toInt := (show v28.toInt = v24.toInt + y5.toInt by rw [e29]; exact ti_addv b26 b22 (by decide) (by decide)).trans (by omega)
        refine t_iald E G 46 (rfl : ro 388 = 46) (by decide) (by decide) rfl (n := 2400) rfl (iv_vp b30 (by decide) (by decide)) dX11_reckons_26 ?_
        refine lv_topi (fun v32 e33 => ?_)
        refine lv_bipush (v := 15) E.1 E.2.1 dX11_reckons_27 (by decide) ?_
        refine lv_iand E.1 E.2.1 dX11_reckons_29 ?_
        refine lv_topi (fun v34 e35 => ?_)
        have b36 : iv 0 15 v34 := by rw [e35]; exact iv_and (iv_lit (lo := 15) (hi := 15) 15 (by decide) (by decide)) (by decide)
        refine lv_istore (lv' := [(5, .int v34), (4, .int y5), (0, .ref (ad 386)), (1, .int x1), (2, .int x2), (3, .int x3)]) E.1 E.2.1 dX11_reckons_30 hl (by decide) rfl (fun ls hl => ?_)
        refine lv_aload_n E.1 E.2.1 dX11_reckons_32 rfl (lv_at hl 2 rfl) ?_
        refine t_get E G 11 3 (rfl : ro 386 = 11) (C := RX11) (T := TX11) (N := 37) rfl (by decide) (by decide) (by decide) mw_fl_11_13 (v := .ref (ad 388)) (fvl_o (n := 2) rfl) dX11_reckons_33 ?_
        refine lv_sipush (v := 400) E.1 E.2.1 dX11_reckons_36 (by decide) ?_
        refine lv_iload_n E.1 E.2.1 dX11_reckons_39 rfl (lv_at hl 3 rfl) ?_
        refine lv_imul E.1 E.2.1 dX11_reckons_40 ?_
        refine lv_topi (fun v37 e38 => ?_)
        have b39 : iv 0 2000 v37 := by rw [e38]; exact iv_mulc' bx1 400 (by decide) (by decide) (by decide) (by decide) (by decide) (by decide)
        have l40 : v37.toInt = 0 + 400 * x1.toInt := (show v37.toInt = 400 * x1.toInt by rw [e38]; exact ti_cmul 400 (by decide) (by decide) bx1 (by decide) (by decide)).trans (by omega)
        refine lv_iload E.1 E.2.1 dX11_reckons_41 (lv_at hl 1 rfl) ?_
        refine lv_iadd E.1 E.2.1 dX11_reckons_43 ?_
        refine lv_topi (fun v41 e42 => ?_)
        have b43 : iv 0 2399 v41 := by rw [e42]; exact iv_add b39 b22 (by decide) (by decide) (by decide) (by decide)
        have l44 : v41.toInt = 0 + 400 * x1.toInt + 1 * y5.toInt := (show v41.toInt = v37.toInt + y5.toInt by rw [e42]; exact ti_addv b39 b22 (by decide) (by decide)).trans (by omega)
        refine t_iald E G 46 (rfl : ro 388 = 46) (by decide) (by decide) rfl (n := 2400) rfl (iv_vp b43 (by decide) (by decide)) dX11_reckons_44 ?_
        refine m_ci v32 (by rw [show v41 = v28 from Int32.toInt_inj.mp (by rw [l44, l31])]; exact e33.symm) ?_
        refine lv_iconst (v := 4) E.1 E.2.1 dX11_reckons_45 (by decide) ?_
        refine lv_ishr E.1 E.2.1 dX11_reckons_46 ?_
        refine lv_topi (fun v45 e46 => ?_)
        refine lv_istore (lv' := [(6, .int v45), (5, .int v34), (4, .int y5), (0, .ref (ad 386)), (1, .int x1), (2, .int x2), (3, .int x3)]) E.1 E.2.1 dX11_reckons_47 hl (by decide) rfl (fun ls hl => ?_)
        have rk47 := rk_at (T := tI zz6 386 18) hc bx1 bx2 bx3 (iv_mono b22 (by decide) (by decide)) h11 c14 (kk8.2.1 388 rfl).1 e33 (l31.trans (by omega)) e35 e46 h13
        refine lv_iload E.1 E.2.1 dX11_reckons_49 (lv_at hl 1 rfl) ?_
        refine lv_if_ne (tgt := 64) E.1 E.2.1 dX11_reckons_51 (by decide) (fun c48 => ?_) (fun c48 => ?_)
        · skip
          have b49 : iv 1 15 v34 := ne_lo c48 b36 (by decide) (by decide)
          refine lv_iload E.1 E.2.1 dX11_reckons_64 (lv_at hl 1 rfl) ?_
          refine lv_iconst (v := 1) E.1 E.2.1 dX11_reckons_66 (by decide) ?_
          refine lv_icmp_ne (tgt := 84) E.1 E.2.1 dX11_reckons_67 (by decide) (fun c50 => ?_) (fun c50 => ?_)
          · skip
            have b51 : iv 2 15 v34 := ne_lo c50 b49 (by decide) (by decide)
            refine lv_iload E.1 E.2.1 dX11_reckons_84 (lv_at hl 1 rfl) ?_
            refine lv_bipush (v := 11) E.1 E.2.1 dX11_reckons_86 (by decide) ?_
            refine lv_icmp_ne (tgt := 104) E.1 E.2.1 dX11_reckons_88 (by decide) (fun c52 => ?_) (fun c52 => ?_)
            · skip
              refine lv_aload_n E.1 E.2.1 dX11_reckons_104 rfl (lv_at hl 3 rfl) ?_
              refine t_vl E G hl (v_pop l D K ad zz6 oo7 (iv_mono (rk47.2.2.2.2 c48 c50 c52).1 (by decide) (by decide))) 11 (rfl : ro 386 = 11) (by decide) rfl rfl 0 rfl mw_code_X11_pop mw_ini_11 mw_ml_11_277 mw_inst_X11_pop mw_sel_X11_pop hd_X11_pop ⟨Nat.le_trans (by decide) hfr, Nat.le_trans (by decide) hlo⟩ rfl rfl rfl (Nat.le_of_ble_eq_true rfl) dX11_reckons_105 (fun r54 zz53 H locs hp55 G => ?_)
              obtain ⟨oo56, kk57, h58⟩ := hp55
              have kk59 : KQ z zz53 := KF.tr kk8 kk57
              have h60 : iv 1 63 (tI zz53 386 18) := iv_sh (-1) h58 (rk47.2.2.2.2 c48 c50 c52).1 (by decide) (by decide)
              have h61 : (tI zz53 386 18).toInt = (tI zz6 386 18).toInt + (-1) := by have := h58; omega
              refine lv_lstore (lv' := [(7, .long r54), (6, .int v45), (5, .int v34), (4, .int y5), (0, .ref (ad 386)), (1, .int x1), (2, .int x2), (3, .int x3)]) E.1 E.2.1 dX11_reckons_108 hl (by decide) rfl (fun ls hl => ?_)
              refine lv_aload_n E.1 E.2.1 dX11_reckons_110 rfl (lv_at hl 4 rfl) ?_
              refine t_vl E G hl (v_pop l D K ad zz53 oo56 (iv_mono h60 (by decide) (by decide))) 11 (rfl : ro 386 = 11) (by decide) rfl rfl 0 rfl mw_code_X11_pop mw_ini_11 mw_ml_11_277 mw_inst_X11_pop mw_sel_X11_pop hd_X11_pop ⟨Nat.le_trans (by decide) hfr, Nat.le_trans (by decide) hlo⟩ rfl rfl rfl (Nat.le_of_ble_eq_true rfl) dX11_reckons_111 (fun r63 zz62 H locs hp64 G => ?_)
              obtain ⟨oo65, kk66, h67⟩ := hp64
              have kk68 : KQ z zz62 := KF.tr kk59 kk66
              have h69 : iv 0 62 (tI zz62 386 18) := iv_sh (-1) h67 h60 (by decide) (by decide)
              have h70 : (tI zz62 386 18).toInt = (tI zz6 386 18).toInt + (-2) := by have := h67; have := h61; omega
              refine lv_lstore (lv' := [(9, .long r63), (7, .long r54), (6, .int v45), (5, .int v34), (4, .int y5), (0, .ref (ad 386)), (1, .int x1), (2, .int x2), (3, .int x3)]) E.1 E.2.1 dX11_reckons_114 hl (by decide) rfl (fun ls hl => ?_)
              refine lv_aload_n E.1 E.2.1 dX11_reckons_116 rfl (lv_at hl 5 rfl) ?_
              refine lv_iload E.1 E.2.1 dX11_reckons_117 (lv_at hl 3 rfl) ?_
              refine lv_lload E.1 E.2.1 dX11_reckons_119 (lv_at hl 0 rfl) ?_
              refine lv_lload E.1 E.2.1 dX11_reckons_121 (lv_at hl 1 rfl) ?_
              refine t_sl E G hl (v_one l D K ad zz62 oo65 v34 r63 r54) 3 rfl mw_code_X11_one mw_ini_11 mw_ml_11_281 mw_stat_X11_one hd_X11_one ⟨Nat.le_trans (by decide) hfr, Nat.le_trans (by decide) hlo⟩ rfl rfl rfl (Nat.le_of_ble_eq_true rfl) dX11_reckons_123 (fun r72 zz71 H locs hp73 G => ?_)
              have hz74 := hp73
              rw [hz74] at G
              refine t_vv E G hl (v_push l D K ad zz62 oo65 r72 (iv_mono h69 (by decide) (by decide))) 11 (rfl : ro 386 = 11) (by decide) rfl rfl 1 rfl mw_code_X11_push mw_ini_11 mw_ml_11_273 mw_inst_X11_push mw_sel_X11_push hd_X11_push ⟨Nat.le_trans (by decide) hfr, Nat.le_trans (by decide) hlo⟩ rfl rfl rfl (Nat.le_of_ble_eq_true rfl) dX11_reckons_126 (fun zz75 H locs hp77 G => ?_)
              obtain ⟨oo78, kk79, h80⟩ := hp77
              have kk81 : KQ z zz75 := KF.tr kk68 kk79
              have h82 : iv 1 63 (tI zz75 386 18) := iv_sh 1 h80 h69 (by decide) (by decide)
              have h83 : (tI zz75 386 18).toInt = (tI zz6 386 18).toInt + (-1) := by have := h80; have := h70; omega
              obtain ⟨v84, e85⟩ : ∃ w : Int32, w = y5 + (1 : Int32) := ⟨_, rfl⟩
              refine lv_iinc (v := v84) (lv' := [(4, .int v84), (9, .long r63), (7, .long r54), (6, .int v45), (5, .int v34), (0, .ref (ad 386)), (1, .int x1), (2, .int x2), (3, .int x3)]) E.1 E.2.1 dX11_reckons_129 hl (k := 4) rfl (by rw [e85]; rfl) (by decide) rfl (fun ls hl => ?_)
              have b86 : iv 1 400 v84 := by rw [e85]; exact iv_add b22 (iv_lit (lo := 1) (hi := 1) 1 (by decide) (by decide)) (by decide) (by decide) (by decide) (by decide)
              have t87 : v84.toInt = y5.toInt + 1 := by rw [e85]; exact ti_addc 1 (by decide) b22 (by decide) (by decide)
              refine lv_goto (tgt := 8) E.1 E.2.1 dX11_reckons_132 (by decide) ?_
              exact ih8 zz75 v84 H locs ls G oo78 kk81 (iv_mono b86 (by decide) (by decide)) (by have := t87; have := h11; omega) (by have := t87; have := Int32.lt_iff_toInt_lt.mp (Int32.not_le.mp c14); omega) (by have q := h83; have g := (rk47.2.2.2.2 c48 c50 c52).2; have t := t87; have p := h13; have b := b22; have n1 := iv_nat b (by decide); have e : (v84).toNatClampNeg = (v84).toInt.toNat := rfl; rw [show (v84).toNatClampNeg = (y5).toNatClampNeg + 1 by omega, g]; omega) (by have := t87; have := m9; omega) (lv_sub hl [0, 5, 6, 7, 8] rfl)
            · skip
              have b88 : iv 11 11 v34 := iv_eq c52 (iv_lit (lo := 11) (hi := 11) 11 (by decide) (by decide))
              refine lv_aload_n E.1 E.2.1 dX11_reckons_91 rfl (lv_at hl 3 rfl) ?_
              refine lv_lconst (v := 1) E.1 E.2.1 dX11_reckons_92 (by decide) ?_
              refine lv_aload_n E.1 E.2.1 dX11_reckons_93 rfl (lv_at hl 3 rfl) ?_
              refine t_vl E G hl (v_pop l D K ad zz6 oo7 (iv_mono (rk47.2.2.2.1 c52).1 (by decide) (by decide))) 11 (rfl : ro 386 = 11) (by decide) rfl rfl 0 rfl mw_code_X11_pop mw_ini_11 mw_ml_11_277 mw_inst_X11_pop mw_sel_X11_pop hd_X11_pop ⟨Nat.le_trans (by decide) hfr, Nat.le_trans (by decide) hlo⟩ rfl rfl rfl (Nat.le_of_ble_eq_true rfl) dX11_reckons_94 (fun r90 zz89 H locs hp91 G => ?_)
              obtain ⟨oo92, kk93, h94⟩ := hp91
              have kk95 : KQ z zz89 := KF.tr kk8 kk93
              have h96 : iv 0 63 (tI zz89 386 18) := iv_sh (-1) h94 (rk47.2.2.2.1 c52).1 (by decide) (by decide)
              have h97 : (tI zz89 386 18).toInt = (tI zz6 386 18).toInt + (-1) := by have := h94; omega
              refine lv_lsub E.1 E.2.1 dX11_reckons_97 ?_
              refine lv_topl (fun v98 _ => ?_)
              refine t_vv E G hl (v_push l D K ad zz89 oo92 v98 (iv_mono h96 (by decide) (by decide))) 11 (rfl : ro 386 = 11) (by decide) rfl rfl 1 rfl mw_code_X11_push mw_ini_11 mw_ml_11_273 mw_inst_X11_push mw_sel_X11_push hd_X11_push ⟨Nat.le_trans (by decide) hfr, Nat.le_trans (by decide) hlo⟩ rfl rfl rfl (Nat.le_of_ble_eq_true rfl) dX11_reckons_98 (fun zz99 H locs hp101 G => ?_)
              obtain ⟨oo102, kk103, h104⟩ := hp101
              have kk105 : KQ z zz99 := KF.tr kk95 kk103
              have h106 : iv 1 64 (tI zz99 386 18) := iv_sh 1 h104 h96 (by decide) (by decide)
              have h107 : (tI zz99 386 18).toInt = (tI zz6 386 18).toInt + 0 := by have := h104; have := h97; omega
              refine lv_goto (tgt := 129) E.1 E.2.1 dX11_reckons_101 (by decide) ?_
              obtain ⟨v108, e109⟩ : ∃ w : Int32, w = y5 + (1 : Int32) := ⟨_, rfl⟩
              refine lv_iinc (v := v108) (lv' := [(4, .int v108), (6, .int v45), (5, .int v34), (0, .ref (ad 386)), (1, .int x1), (2, .int x2), (3, .int x3)]) E.1 E.2.1 dX11_reckons_129 hl (k := 2) rfl (by rw [e109]; rfl) (by decide) rfl (fun ls hl => ?_)
              have b110 : iv 1 400 v108 := by rw [e109]; exact iv_add b22 (iv_lit (lo := 1) (hi := 1) 1 (by decide) (by decide)) (by decide) (by decide) (by decide) (by decide)
              have t111 : v108.toInt = y5.toInt + 1 := by rw [e109]; exact ti_addc 1 (by decide) b22 (by decide) (by decide)
              refine lv_goto (tgt := 8) E.1 E.2.1 dX11_reckons_132 (by decide) ?_
              exact ih8 zz99 v108 H locs ls G oo102 kk105 (iv_mono b110 (by decide) (by decide)) (by have := t111; have := h11; omega) (by have := t111; have := Int32.lt_iff_toInt_lt.mp (Int32.not_le.mp c14); omega) (by have q := h107; have g := (rk47.2.2.2.1 c52).2; have t := t111; have p := h13; have b := b22; have n1 := iv_nat b (by decide); have e : (v108).toNatClampNeg = (v108).toInt.toNat := rfl; rw [show (v108).toNatClampNeg = (y5).toNatClampNeg + 1 by omega, g]; omega) (by have := t111; have := m9; omega) (lv_sub hl [0, 3, 4, 5, 6] rfl)
          · skip
            have b112 : iv 1 1 v34 := iv_eq c50 (iv_lit (lo := 1) (hi := 1) 1 (by decide) (by decide))
            have b113 : iv 0 10 v45 := rk47.2.2.1 c50
            refine lv_aload_n E.1 E.2.1 dX11_reckons_70 rfl (lv_at hl 3 rfl) ?_
            refine lv_aload_n E.1 E.2.1 dX11_reckons_71 rfl (lv_at hl 3 rfl) ?_
            refine t_get E G 11 19 (rfl : ro 386 = 11) (C := RX11) (T := TX11) (N := 37) rfl (by decide) (by decide) (by decide) mw_fl_11_36 (v := .ref (ad 395)) (fvl_o (n := 9) rfl) dX11_reckons_72 ?_
            refine lv_iload E.1 E.2.1 dX11_reckons_75 (lv_at hl 0 rfl) ?_
            refine t_lald E G 53 (rfl : ro 395 = 53) (by decide) (by decide) rfl (n := 11) rfl (iv_vp b113 (by decide) (by decide)) dX11_reckons_77 ?_
            refine lv_topl (fun v114 _ => ?_)
            refine t_vv E G hl (v_push l D K ad zz6 oo7 v114 (iv_mono (rk47.2.1 c50).1 (by decide) (by decide))) 11 (rfl : ro 386 = 11) (by decide) rfl rfl 1 rfl mw_code_X11_push mw_ini_11 mw_ml_11_273 mw_inst_X11_push mw_sel_X11_push hd_X11_push ⟨Nat.le_trans (by decide) hfr, Nat.le_trans (by decide) hlo⟩ rfl rfl rfl (Nat.le_of_ble_eq_true rfl) dX11_reckons_78 (fun zz115 H locs hp117 G => ?_)
            obtain ⟨oo118, kk119, h120⟩ := hp117
            have kk121 : KQ z zz115 := KF.tr kk8 kk119
            have h122 : iv 1 64 (tI zz115 386 18) := iv_sh 1 h120 (rk47.2.1 c50).1 (by decide) (by decide)
            have h123 : (tI zz115 386 18).toInt = (tI zz6 386 18).toInt + 1 := by have := h120; omega
            refine lv_goto (tgt := 129) E.1 E.2.1 dX11_reckons_81 (by decide) ?_
            obtain ⟨v124, e125⟩ : ∃ w : Int32, w = y5 + (1 : Int32) := ⟨_, rfl⟩
            refine lv_iinc (v := v124) (lv' := [(4, .int v124), (6, .int v45), (5, .int v34), (0, .ref (ad 386)), (1, .int x1), (2, .int x2), (3, .int x3)]) E.1 E.2.1 dX11_reckons_129 hl (k := 2) rfl (by rw [e125]; rfl) (by decide) rfl (fun ls hl => ?_)
            have b126 : iv 1 400 v124 := by rw [e125]; exact iv_add b22 (iv_lit (lo := 1) (hi := 1) 1 (by decide) (by decide)) (by decide) (by decide) (by decide) (by decide)
            have t127 : v124.toInt = y5.toInt + 1 := by rw [e125]; exact ti_addc 1 (by decide) b22 (by decide) (by decide)
            refine lv_goto (tgt := 8) E.1 E.2.1 dX11_reckons_132 (by decide) ?_
            exact ih8 zz115 v124 H locs ls G oo118 kk121 (iv_mono b126 (by decide) (by decide)) (by have := t127; have := h11; omega) (by have := t127; have := Int32.lt_iff_toInt_lt.mp (Int32.not_le.mp c14); omega) (by have q := h123; have g := (rk47.2.1 c50).2; have t := t127; have p := h13; have b := b22; have n1 := iv_nat b (by decide); have e : (v124).toNatClampNeg = (v124).toInt.toNat := rfl; rw [show (v124).toNatClampNeg = (y5).toNatClampNeg + 1 by omega, g]; omega) (by have := t127; have := m9; omega) (lv_sub hl [0, 3, 4, 5, 6] rfl)
        · skip
          have b128 : iv 0 0 v34 := iv_eq c48 (iv_lit (lo := 0) (hi := 0) 0 (by decide) (by decide))
          refine lv_aload_n E.1 E.2.1 dX11_reckons_54 rfl (lv_at hl 3 rfl) ?_
          refine lv_iload E.1 E.2.1 dX11_reckons_55 (lv_at hl 0 rfl) ?_
          refine lv_i2l E.1 E.2.1 dX11_reckons_57 rfl ?_
          refine lv_topl (fun v129 e130 => ?_)
          refine t_vv E G hl (v_push l D K ad zz6 oo7 v129 (iv_mono (rk47.1 c48).1 (by decide) (by decide))) 11 (rfl : ro 386 = 11) (by decide) rfl rfl 1 rfl mw_code_X11_push mw_ini_11 mw_ml_11_273 mw_inst_X11_push mw_sel_X11_push hd_X11_push ⟨Nat.le_trans (by decide) hfr, Nat.le_trans (by decide) hlo⟩ rfl rfl rfl (Nat.le_of_ble_eq_true rfl) dX11_reckons_58 (fun zz131 H locs hp133 G => ?_)
          obtain ⟨oo134, kk135, h136⟩ := hp133
          have kk137 : KQ z zz131 := KF.tr kk8 kk135
          have h138 : iv 1 64 (tI zz131 386 18) := iv_sh 1 h136 (rk47.1 c48).1 (by decide) (by decide)
          have h139 : (tI zz131 386 18).toInt = (tI zz6 386 18).toInt + 1 := by have := h136; omega
          refine lv_goto (tgt := 129) E.1 E.2.1 dX11_reckons_61 (by decide) ?_
          obtain ⟨v140, e141⟩ : ∃ w : Int32, w = y5 + (1 : Int32) := ⟨_, rfl⟩
          refine lv_iinc (v := v140) (lv' := [(4, .int v140), (6, .int v45), (5, .int v34), (0, .ref (ad 386)), (1, .int x1), (2, .int x2), (3, .int x3)]) E.1 E.2.1 dX11_reckons_129 hl (k := 2) rfl (by rw [e141]; rfl) (by decide) rfl (fun ls hl => ?_)
          have b142 : iv 1 400 v140 := by rw [e141]; exact iv_add b22 (iv_lit (lo := 1) (hi := 1) 1 (by decide) (by decide)) (by decide) (by decide) (by decide) (by decide)
          have t143 : v140.toInt = y5.toInt + 1 := by rw [e141]; exact ti_addc 1 (by decide) b22 (by decide) (by decide)
          refine lv_goto (tgt := 8) E.1 E.2.1 dX11_reckons_132 (by decide) ?_
          exact ih8 zz131 v140 H locs ls G oo134 kk137 (iv_mono b142 (by decide) (by decide)) (by have := t143; have := h11; omega) (by have := t143; have := Int32.lt_iff_toInt_lt.mp (Int32.not_le.mp c14); omega) (by have q := h139; have g := (rk47.1 c48).2; have t := t143; have p := h13; have b := b22; have n1 := iv_nat b (by decide); have e : (v140).toNatClampNeg = (v140).toInt.toNat := rfl; rw [show (v140).toNatClampNeg = (y5).toNatClampNeg + 1 by omega, g]; omega) (by have := t143; have := m9; omega) (lv_sub hl [0, 3, 4, 5, 6] rfl)
  exact LOOP8 401 zz1 x2 H locs ls G oo2 kk3 (iv_mono bx2 (by decide) (by decide)) (Int.le_refl _) (by have := hc.1; have := iv_nat bx2 (by decide); have := iv_nat bx3 (by decide); omega) (by rw [h4]; exact tz_0 _) (by have := bx2.1; omega) (lv_sub hl [0, 1, 2, 3, 4] rfl)
