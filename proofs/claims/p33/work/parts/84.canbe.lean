theorem mw_code_X11_alikeAt : (Cond.code yX11_alikeAt cX11_alikeAt 6 (some .int) : Cond) ∈ cw := cw_of (List.mem_append_right _ (List.mem_append_right _ (List.mem_append_right _ (List.mem_append_right _ (List.mem_append_right _ (List.mem_append_right _ (List.mem_append_right _ (List.mem_append_left _ (List.mem_of_getElem? (i := 208) rfl))))))))) (by decide +kernel)
theorem mw_code_X11_fillsFits : (Cond.code yX11_fillsFits cX11_fillsFits 4 none : Cond) ∈ cw := cw_of (List.mem_append_right _ (List.mem_append_right _ (List.mem_append_right _ (List.mem_append_right _ (List.mem_append_right _ (List.mem_append_right _ (List.mem_append_right _ (List.mem_append_left _ (List.mem_of_getElem? (i := 192) rfl))))))))) (by decide +kernel)
theorem mw_inst_X11_alikeAt : (Cond.instanceMethod yX11_alikeAt : Cond) ∈ cw := cw_of (List.mem_append_right _ (List.mem_append_right _ (List.mem_append_right _ (List.mem_append_right _ (List.mem_append_right _ (List.mem_append_right _ (List.mem_append_right _ (List.mem_append_left _ (List.mem_of_getElem? (i := 207) (by decide +kernel)))))))))) (by decide +kernel)
theorem mw_inst_X11_fillsFits : (Cond.instanceMethod yX11_fillsFits : Cond) ∈ cw := cw_of (List.mem_append_right _ (List.mem_append_right _ (List.mem_append_right _ (List.mem_append_right _ (List.mem_append_right _ (List.mem_append_right _ (List.mem_append_right _ (List.mem_append_left _ (List.mem_of_getElem? (i := 191) (by decide +kernel)))))))))) (by decide +kernel)
theorem mw_ml_11_437 : (Cond.methodLink RX11 437 yX11_fillsFits : Cond) ∈ cw := cw_of (List.mem_append_right _ (List.mem_append_right _ (List.mem_append_right _ (List.mem_append_right _ (List.mem_append_right _ (List.mem_append_right _ (List.mem_append_right _ (List.mem_append_left _ (List.mem_of_getElem? (i := 189) (by decide +kernel)))))))))) (by decide +kernel)
theorem mw_ml_11_440 : (Cond.methodLink RX11 440 yX11_alikeAt : Cond) ∈ cw := cw_of (List.mem_append_right _ (List.mem_append_right _ (List.mem_append_right _ (List.mem_append_right _ (List.mem_append_right _ (List.mem_append_right _ (List.mem_append_right _ (List.mem_append_left _ (List.mem_of_getElem? (i := 205) (by decide +kernel)))))))))) (by decide +kernel)
theorem mw_sel_X11_alikeAt : (Cond.selects RX11 yX11_alikeAt yX11_alikeAt : Cond) ∈ cw := cw_of (List.mem_append_left _ (List.mem_of_getElem? (i := 122) (by decide +kernel))) (by decide +kernel)
theorem mw_sel_X11_fillsFits : (Cond.selects RX11 yX11_fillsFits yX11_fillsFits : Cond) ∈ cw := cw_of (List.mem_append_left _ (List.mem_of_getElem? (i := 119) (by decide +kernel))) (by decide +kernel)
theorem dX11_canBe_0 : decode cX11_canBe 0 = .ok (.aload_n 0, 1) := by decide +kernel
theorem dX11_canBe_1 : decode cX11_canBe 1 = .ok (.getfield 39, 3) := by decide +kernel
theorem dX11_canBe_4 : decode cX11_canBe 4 = .ok (.iload_n 1, 1) := by decide +kernel
theorem dX11_canBe_5 : decode cX11_canBe 5 = .ok (.iaload, 1) := by decide +kernel
theorem dX11_canBe_6 : decode cX11_canBe 6 = .ok (.istore_n 3, 1) := by decide +kernel
theorem dX11_canBe_7 : decode cX11_canBe 7 = .ok (.iconst 0, 1) := by decide +kernel
theorem dX11_canBe_8 : decode cX11_canBe 8 = .ok (.istore 4, 2) := by decide +kernel
theorem dX11_canBe_10 : decode cX11_canBe 10 = .ok (.aload_n 0, 1) := by decide +kernel
theorem dX11_canBe_11 : decode cX11_canBe 11 = .ok (.invokevirtual 373, 3) := by decide +kernel
theorem dX11_canBe_14 : decode cX11_canBe 14 = .ok (.iconst 0, 1) := by decide +kernel
theorem dX11_canBe_15 : decode cX11_canBe 15 = .ok (.istore 5, 2) := by decide +kernel
theorem dX11_canBe_17 : decode cX11_canBe 17 = .ok (.iload 5, 2) := by decide +kernel
theorem dX11_canBe_19 : decode cX11_canBe 19 = .ok (.iload_n 2, 1) := by decide +kernel
theorem dX11_canBe_20 : decode cX11_canBe 20 = .ok (.if_icmp .gt 39, 3) := by decide +kernel
theorem dX11_canBe_23 : decode cX11_canBe 23 = .ok (.aload_n 0, 1) := by decide +kernel
theorem dX11_canBe_24 : decode cX11_canBe 24 = .ok (.getfield 39, 3) := by decide +kernel
theorem dX11_canBe_27 : decode cX11_canBe 27 = .ok (.iload_n 1, 1) := by decide +kernel
theorem dX11_canBe_28 : decode cX11_canBe 28 = .ok (.iload 5, 2) := by decide +kernel
theorem dX11_canBe_30 : decode cX11_canBe 30 = .ok (.iastore, 1) := by decide +kernel
theorem dX11_canBe_31 : decode cX11_canBe 31 = .ok (.aload_n 0, 1) := by decide +kernel
theorem dX11_canBe_32 : decode cX11_canBe 32 = .ok (.invokevirtual 264, 3) := by decide +kernel
theorem dX11_canBe_35 : decode cX11_canBe 35 = .ok (.aload_n 0, 1) := by decide +kernel
theorem dX11_canBe_36 : decode cX11_canBe 36 = .ok (.iconst 0, 1) := by decide +kernel
theorem dX11_canBe_37 : decode cX11_canBe 37 = .ok (.iconst (-1), 1) := by decide +kernel
theorem dX11_canBe_38 : decode cX11_canBe 38 = .ok (.invokevirtual 434, 3) := by decide +kernel
theorem dX11_canBe_41 : decode cX11_canBe 41 = .ok (.ifCond .eq 12, 3) := by decide +kernel
theorem dX11_canBe_44 : decode cX11_canBe 44 = .ok (.iload 4, 2) := by decide +kernel
theorem dX11_canBe_46 : decode cX11_canBe 46 = .ok (.iconst 1, 1) := by decide +kernel
theorem dX11_canBe_47 : decode cX11_canBe 47 = .ok (.iload 5, 2) := by decide +kernel
theorem dX11_canBe_49 : decode cX11_canBe 49 = .ok (.ishl, 1) := by decide +kernel
theorem dX11_canBe_50 : decode cX11_canBe 50 = .ok (.ior, 1) := by decide +kernel
theorem dX11_canBe_51 : decode cX11_canBe 51 = .ok (.istore 4, 2) := by decide +kernel
theorem dX11_canBe_53 : decode cX11_canBe 53 = .ok (.iinc 5 1, 3) := by decide +kernel
theorem dX11_canBe_56 : decode cX11_canBe 56 = .ok (.goto (-39), 3) := by decide +kernel
theorem dX11_canBe_59 : decode cX11_canBe 59 = .ok (.aload_n 0, 1) := by decide +kernel
theorem dX11_canBe_60 : decode cX11_canBe 60 = .ok (.getfield 39, 3) := by decide +kernel
theorem dX11_canBe_63 : decode cX11_canBe 63 = .ok (.iload_n 1, 1) := by decide +kernel
theorem dX11_canBe_64 : decode cX11_canBe 64 = .ok (.iload_n 3, 1) := by decide +kernel
theorem dX11_canBe_65 : decode cX11_canBe 65 = .ok (.iastore, 1) := by decide +kernel
theorem dX11_canBe_66 : decode cX11_canBe 66 = .ok (.aload_n 0, 1) := by decide +kernel
theorem dX11_canBe_67 : decode cX11_canBe 67 = .ok (.invokevirtual 382, 3) := by decide +kernel
theorem dX11_canBe_70 : decode cX11_canBe 70 = .ok (.iload 4, 2) := by decide +kernel
theorem dX11_canBe_72 : decode cX11_canBe 72 = .ok (.ireturn, 1) := by decide +kernel
theorem dX11_look_0 : decode cX11_look 0 = .ok (.aload_n 0, 1) := by decide +kernel
theorem dX11_look_1 : decode cX11_look 1 = .ok (.invokevirtual 359, 3) := by decide +kernel
theorem dX11_look_4 : decode cX11_look 4 = .ok (.ifCond .eq 25, 3) := by decide +kernel
theorem dX11_look_7 : decode cX11_look 7 = .ok (.iload_n 1, 1) := by decide +kernel
theorem dX11_look_8 : decode cX11_look 8 = .ok (.i2l, 1) := by decide +kernel
theorem dX11_look_9 : decode cX11_look 9 = .ok (.lconst 0, 1) := by decide +kernel
theorem dX11_look_10 : decode cX11_look 10 = .ok (.ldc2_w 429, 3) := by decide +kernel
theorem dX11_look_13 : decode cX11_look 13 = .ok (.invokestatic 121, 3) := by decide +kernel
theorem dX11_look_16 : decode cX11_look 16 = .ok (.ifCond .eq 13, 3) := by decide +kernel
theorem dX11_look_19 : decode cX11_look 19 = .ok (.iload_n 2, 1) := by decide +kernel
theorem dX11_look_20 : decode cX11_look 20 = .ok (.i2l, 1) := by decide +kernel
theorem dX11_look_21 : decode cX11_look 21 = .ok (.lconst 0, 1) := by decide +kernel
theorem dX11_look_22 : decode cX11_look 22 = .ok (.lconst 1, 1) := by decide +kernel
theorem dX11_look_23 : decode cX11_look 23 = .ok (.invokestatic 121, 3) := by decide +kernel
theorem dX11_look_26 : decode cX11_look 26 = .ok (.ifCond .ne 5, 3) := by decide +kernel
theorem dX11_look_29 : decode cX11_look 29 = .ok (.iconst (-1), 1) := by decide +kernel
theorem dX11_look_30 : decode cX11_look 30 = .ok (.ireturn, 1) := by decide +kernel
theorem dX11_look_31 : decode cX11_look 31 = .ok (.aload_n 0, 1) := by decide +kernel
theorem dX11_look_32 : decode cX11_look 32 = .ok (.iload_n 1, 1) := by decide +kernel
theorem dX11_look_33 : decode cX11_look 33 = .ok (.invokevirtual 437, 3) := by decide +kernel
theorem dX11_look_36 : decode cX11_look 36 = .ok (.bipush (-2), 2) := by decide +kernel
theorem dX11_look_38 : decode cX11_look 38 = .ok (.istore_n 3, 1) := by decide +kernel
theorem dX11_look_39 : decode cX11_look 39 = .ok (.bipush (-2), 2) := by decide +kernel
theorem dX11_look_41 : decode cX11_look 41 = .ok (.istore 4, 2) := by decide +kernel
theorem dX11_look_43 : decode cX11_look 43 = .ok (.iconst 0, 1) := by decide +kernel
theorem dX11_look_44 : decode cX11_look 44 = .ok (.istore 5, 2) := by decide +kernel
theorem dX11_look_46 : decode cX11_look 46 = .ok (.iload 5, 2) := by decide +kernel
theorem dX11_look_48 : decode cX11_look 48 = .ok (.aload_n 0, 1) := by decide +kernel
theorem dX11_look_49 : decode cX11_look 49 = .ok (.getfield 39, 3) := by decide +kernel
theorem dX11_look_52 : decode cX11_look 52 = .ok (.iconst 4, 1) := by decide +kernel
theorem dX11_look_53 : decode cX11_look 53 = .ok (.iaload, 1) := by decide +kernel
theorem dX11_look_54 : decode cX11_look 54 = .ok (.if_icmp .ge 43, 3) := by decide +kernel
theorem dX11_look_57 : decode cX11_look 57 = .ok (.aload_n 0, 1) := by decide +kernel
theorem dX11_look_58 : decode cX11_look 58 = .ok (.iload 5, 2) := by decide +kernel
theorem dX11_look_60 : decode cX11_look 60 = .ok (.invokevirtual 440, 3) := by decide +kernel
theorem dX11_look_63 : decode cX11_look 63 = .ok (.istore 6, 2) := by decide +kernel
theorem dX11_look_65 : decode cX11_look 65 = .ok (.iload 6, 2) := by decide +kernel
theorem dX11_look_67 : decode cX11_look 67 = .ok (.ifCond .eq 24, 3) := by decide +kernel
theorem dX11_look_70 : decode cX11_look 70 = .ok (.iload_n 3, 1) := by decide +kernel
theorem dX11_look_71 : decode cX11_look 71 = .ok (.ifCond .lt 13, 3) := by decide +kernel
theorem dX11_look_74 : decode cX11_look 74 = .ok (.iload 6, 2) := by decide +kernel
theorem dX11_look_76 : decode cX11_look 76 = .ok (.iload 4, 2) := by decide +kernel
theorem dX11_look_78 : decode cX11_look 78 = .ok (.if_icmp .lt 6, 3) := by decide +kernel
theorem dX11_look_81 : decode cX11_look 81 = .ok (.goto 10, 3) := by decide +kernel
theorem dX11_look_84 : decode cX11_look 84 = .ok (.iload 5, 2) := by decide +kernel
theorem dX11_look_86 : decode cX11_look 86 = .ok (.istore_n 3, 1) := by decide +kernel
theorem dX11_look_87 : decode cX11_look 87 = .ok (.iload 6, 2) := by decide +kernel
theorem dX11_look_89 : decode cX11_look 89 = .ok (.istore 4, 2) := by decide +kernel
theorem dX11_look_91 : decode cX11_look 91 = .ok (.iinc 5 1, 3) := by decide +kernel
theorem dX11_look_94 : decode cX11_look 94 = .ok (.goto (-48), 3) := by decide +kernel
theorem dX11_look_97 : decode cX11_look 97 = .ok (.iload_n 2, 1) := by decide +kernel
theorem dX11_look_98 : decode cX11_look 98 = .ok (.ifCond .ne 7, 3) := by decide +kernel
theorem dX11_look_101 : decode cX11_look 101 = .ok (.iload_n 3, 1) := by decide +kernel
theorem dX11_look_102 : decode cX11_look 102 = .ok (.goto 5, 3) := by decide +kernel
theorem dX11_look_105 : decode cX11_look 105 = .ok (.iload 4, 2) := by decide +kernel
theorem dX11_look_107 : decode cX11_look 107 = .ok (.ireturn, 1) := by decide +kernel
theorem dX11_ruled_0 : decode cX11_ruled 0 = .ok (.aload_n 0, 1) := by decide +kernel
theorem dX11_ruled_1 : decode cX11_ruled 1 = .ok (.invokevirtual 359, 3) := by decide +kernel
theorem dX11_ruled_4 : decode cX11_ruled 4 = .ok (.ifCond .eq 13, 3) := by decide +kernel
theorem dX11_ruled_7 : decode cX11_ruled 7 = .ok (.iload_n 1, 1) := by decide +kernel
theorem dX11_ruled_8 : decode cX11_ruled 8 = .ok (.i2l, 1) := by decide +kernel
theorem dX11_ruled_9 : decode cX11_ruled 9 = .ok (.lconst 0, 1) := by decide +kernel
theorem dX11_ruled_10 : decode cX11_ruled 10 = .ok (.lconst 1, 1) := by decide +kernel
theorem dX11_ruled_11 : decode cX11_ruled 11 = .ok (.invokestatic 121, 3) := by decide +kernel
theorem dX11_ruled_14 : decode cX11_ruled 14 = .ok (.ifCond .ne 6, 3) := by decide +kernel
theorem dX11_ruled_17 : decode cX11_ruled 17 = .ok (.bipush (-3), 2) := by decide +kernel
theorem dX11_ruled_19 : decode cX11_ruled 19 = .ok (.ireturn, 1) := by decide +kernel
theorem dX11_ruled_20 : decode cX11_ruled 20 = .ok (.aload_n 0, 1) := by decide +kernel
theorem dX11_ruled_21 : decode cX11_ruled 21 = .ok (.iconst 0, 1) := by decide +kernel
theorem dX11_ruled_22 : decode cX11_ruled 22 = .ok (.invokevirtual 437, 3) := by decide +kernel
theorem dX11_ruled_25 : decode cX11_ruled 25 = .ok (.iconst 0, 1) := by decide +kernel
theorem dX11_ruled_26 : decode cX11_ruled 26 = .ok (.istore_n 2, 1) := by decide +kernel
theorem dX11_ruled_27 : decode cX11_ruled 27 = .ok (.bipush (-2), 2) := by decide +kernel
theorem dX11_ruled_29 : decode cX11_ruled 29 = .ok (.istore_n 3, 1) := by decide +kernel
theorem dX11_ruled_30 : decode cX11_ruled 30 = .ok (.aload_n 0, 1) := by decide +kernel
theorem dX11_ruled_31 : decode cX11_ruled 31 = .ok (.getfield 258, 3) := by decide +kernel
theorem dX11_ruled_34 : decode cX11_ruled 34 = .ok (.istore 4, 2) := by decide +kernel
theorem dX11_ruled_36 : decode cX11_ruled 36 = .ok (.iload 4, 2) := by decide +kernel
theorem dX11_ruled_38 : decode cX11_ruled 38 = .ok (.ifCond .lt 30, 3) := by decide +kernel
theorem dX11_ruled_41 : decode cX11_ruled 41 = .ok (.aload_n 0, 1) := by decide +kernel
theorem dX11_ruled_42 : decode cX11_ruled 42 = .ok (.getfield 64, 3) := by decide +kernel
theorem dX11_ruled_45 : decode cX11_ruled 45 = .ok (.iload 4, 2) := by decide +kernel
theorem dX11_ruled_47 : decode cX11_ruled 47 = .ok (.baload, 1) := by decide +kernel
theorem dX11_ruled_48 : decode cX11_ruled 48 = .ok (.ifCond .ne 6, 3) := by decide +kernel
theorem dX11_ruled_51 : decode cX11_ruled 51 = .ok (.goto 11, 3) := by decide +kernel
theorem dX11_ruled_54 : decode cX11_ruled 54 = .ok (.iload 4, 2) := by decide +kernel
theorem dX11_ruled_56 : decode cX11_ruled 56 = .ok (.iconst 1, 1) := by decide +kernel
theorem dX11_ruled_57 : decode cX11_ruled 57 = .ok (.isub, 1) := by decide +kernel
theorem dX11_ruled_58 : decode cX11_ruled 58 = .ok (.istore_n 3, 1) := by decide +kernel
theorem dX11_ruled_59 : decode cX11_ruled 59 = .ok (.iinc 2 1, 3) := by decide +kernel
theorem dX11_ruled_62 : decode cX11_ruled 62 = .ok (.iinc 4 (-1), 3) := by decide +kernel
theorem dX11_ruled_65 : decode cX11_ruled 65 = .ok (.goto (-29), 3) := by decide +kernel
theorem dX11_ruled_68 : decode cX11_ruled 68 = .ok (.iload_n 1, 1) := by decide +kernel
theorem dX11_ruled_69 : decode cX11_ruled 69 = .ok (.ifCond .ne 7, 3) := by decide +kernel
theorem dX11_ruled_72 : decode cX11_ruled 72 = .ok (.iload_n 2, 1) := by decide +kernel
theorem dX11_ruled_73 : decode cX11_ruled 73 = .ok (.goto 4, 3) := by decide +kernel
theorem dX11_ruled_76 : decode cX11_ruled 76 = .ok (.iload_n 3, 1) := by decide +kernel
theorem dX11_ruled_77 : decode cX11_ruled 77 = .ok (.ireturn, 1) := by decide +kernel
theorem hd_X11_alikeAt : yX11_alikeAt.cls ≠ "java/lang/invoke/MethodHandle" ∧ yX11_alikeAt.cls ≠ "java/lang/invoke/VarHandle" ∧ (parseMethodDescriptor yX11_alikeAt.desc).map (fun d => d.parameters.length) = some 1 := ⟨by decide +kernel, by decide +kernel, by decide +kernel⟩
theorem hd_X11_fillsFits : yX11_fillsFits.cls ≠ "java/lang/invoke/MethodHandle" ∧ yX11_fillsFits.cls ≠ "java/lang/invoke/VarHandle" ∧ (parseMethodDescriptor yX11_fillsFits.desc).map (fun d => d.parameters.length) = some 1 := ⟨by decide +kernel, by decide +kernel, by decide +kernel⟩
set_option maxHeartbeats 4000000 in
set_option maxRecDepth 100000 in
theorem v_ruled (l : Launch) (D : va_G) (K : Nat → ClassId) (ad : Nat → Nat) (z : TS) (o : Ok z) (x1 : Int32) (wf : WFc z) : cI l yX11_ruled cX11_ruled 5 .int ({ frames := 9, cells := 0, slots := 0, locals := 216 }) D K ad z [.ref (ad 386), .int x1] (fun r u => Ok u ∧ KM z u) := by
  refine t_enterI (by decide) (Nat.le_of_ble_eq_true rfl) rfl rfl ?_
  intro p e s m args below meth c A R Q H locs ls E hfr hlo RET G hl
  have E : mE p s m meth c cX11_ruled args 5 RX11 D K A := E
  have hl : lv_has ls 5 [(0, .ref (ad 386)), (1, .int x1)] := hl
  refine lv_aload_n E.1 E.2.1 dX11_ruled_0 rfl (lv_at hl 0 rfl) ?_
  refine t_vi E G hl (v_isTown l D K ad z o) 11 (rfl : ro 386 = 11) (by decide) rfl rfl 0 rfl mw_code_X11_isTown mw_ini_11 mw_ml_11_359 mw_inst_X11_isTown mw_sel_X11_isTown hd_X11_isTown ⟨Nat.le_trans (by decide) hfr, Nat.le_trans (by decide) hlo⟩ rfl rfl rfl (Nat.le_of_ble_eq_true rfl) dX11_ruled_1 (fun r2 zz1 H locs hp3 G => ?_)
  obtain ⟨hz5, b4⟩ := hp3
  rw [hz5] at G
  refine lv_if_eq (tgt := 17) E.1 E.2.1 dX11_ruled_4 (by decide) (fun c6 => ?_) (fun c6 => ?_)
  · skip
    have b7 : iv 0 0 r2 := iv_eq c6 (iv_lit (lo := 0) (hi := 0) 0 (by decide) (by decide))
    refine lv_bipush (v := (-3)) E.1 E.2.1 dX11_ruled_17 (by decide) ?_
    exact RET G ⟨o, KF.rf⟩ rfl dX11_ruled_19
  · skip
    have b8 : iv 1 1 r2 := ne_lo c6 b4 (by decide) (by decide)
    refine lv_iload_n E.1 E.2.1 dX11_ruled_7 rfl (lv_at hl 1 rfl) ?_
    refine lv_i2l E.1 E.2.1 dX11_ruled_8 rfl ?_
    refine lv_topl (fun v9 e10 => ?_)
    refine lv_lconst (v := 0) E.1 E.2.1 dX11_ruled_9 (by decide) ?_
    refine lv_lconst (v := 1) E.1 E.2.1 dX11_ruled_10 (by decide) ?_
    refine t_si E G hl (v_in l D K ad z o v9 0 1) 3 rfl mw_code_X11_in mw_ini_11 mw_ml_11_121 mw_stat_X11_in hd_X11_in ⟨Nat.le_trans (by decide) hfr, Nat.le_trans (by decide) hlo⟩ rfl rfl rfl (Nat.le_of_ble_eq_true rfl) dX11_ruled_11 (fun r12 zz11 H locs hp13 G => ?_)
    obtain ⟨hz16, b14, h15⟩ := hp13
    rw [hz16] at G
    refine lv_if_ne (tgt := 20) E.1 E.2.1 dX11_ruled_14 (by decide) (fun c17 => ?_) (fun c17 => ?_)
    · skip
      have b18 : iv 1 1 r12 := ne_lo c17 b14 (by decide) (by decide)
      have b19 : iv 0 1 x1 := (fun q => in_iv e10 (h15 q) (by decide) (by decide)) c17
      refine lv_aload_n E.1 E.2.1 dX11_ruled_20 rfl (lv_at hl 0 rfl) ?_
      refine lv_iconst (v := 0) E.1 E.2.1 dX11_ruled_21 (by decide) ?_
      refine t_vv E G hl (v_fillsFits l D K ad z o (0 : Int32) wf) 11 (rfl : ro 386 = 11) (by decide) rfl rfl 1 rfl mw_code_X11_fillsFits mw_ini_11 mw_ml_11_437 mw_inst_X11_fillsFits mw_sel_X11_fillsFits hd_X11_fillsFits ⟨Nat.le_trans (by decide) hfr, Nat.le_trans (by decide) hlo⟩ rfl rfl rfl (Nat.le_of_ble_eq_true rfl) dX11_ruled_22 (fun zz20 H locs hp22 G => ?_)
      obtain ⟨oo23, kk24⟩ := hp22
      have kk25 : KM z zz20 := KF.tr KF.rf kk24
      refine lv_iconst (v := 0) E.1 E.2.1 dX11_ruled_25 (by decide) ?_
      refine lv_istore_n (lv' := [(2, .int 0), (0, .ref (ad 386)), (1, .int x1)]) E.1 E.2.1 dX11_ruled_26 rfl hl (by decide) rfl (fun ls hl => ?_)
      refine lv_bipush (v := (-2)) E.1 E.2.1 dX11_ruled_27 (by decide) ?_
      refine lv_istore_n (lv' := [(3, .int (-2)), (2, .int 0), (0, .ref (ad 386)), (1, .int x1)]) E.1 E.2.1 dX11_ruled_29 rfl hl (by decide) rfl (fun ls hl => ?_)
      refine lv_aload_n E.1 E.2.1 dX11_ruled_30 rfl (lv_at hl 2 rfl) ?_
      refine t_get E G 11 2 (rfl : ro 386 = 11) (C := RX11) (T := TX11) (N := 37) rfl (by decide) (by decide) (by decide) mw_fl_11_258 (fvl_i rfl) dX11_ruled_31 ?_
      refine lv_topi (fun v26 e27 => ?_)
      have b28 : iv 0 6 v26 := by rw [e27]; exact oo23.i 11 2 (rfl : ro 386 = 11)
      refine lv_istore (lv' := [(4, .int v26), (3, .int (-2)), (2, .int 0), (0, .ref (ad 386)), (1, .int x1)]) E.1 E.2.1 dX11_ruled_34 hl (by decide) rfl (fun ls hl => ?_)
      have LOOP36 : ∀ n : Nat, ∀ (y29 : Int32) (y30 : Int32) (y31 : Int32) (H : Heap) (locs : List Loc) (ls : Array Slot), mG D A s H locs (wd K ad zz20) → iv (-1) 6 y29 → y29.toInt < (-1) + (n : Int) → lv_has ls 5 [(4, .int y29), (3, .int y30), (2, .int y31), (0, .ref (ad 386)), (1, .int x1)] → W p l e R s m args below meth c H locs 0 0 Q (F0 m 36 ls []) := by
        intro n
        induction n with
        | zero =>
          intro y29 y30 y31 H locs ls G b36 m35 hl
          exact absurd m35 (by have := b36.1; have := b36.2; omega)
        | succ n ih36 =>
          intro y29 y30 y31 H locs ls G b36 m35 hl
          refine lv_iload E.1 E.2.1 dX11_ruled_36 (lv_at hl 0 rfl) ?_
          refine lv_if_lt (tgt := 68) E.1 E.2.1 dX11_ruled_38 (by decide) (fun c37 => ?_) (fun c37 => ?_)
          · skip
            have b38 : iv (-1) (-1) y29 := lt_l c37 b36 (iv_lit (lo := 0) (hi := 0) 0 (by decide) (by decide)) (by decide)
            refine lv_iload_n E.1 E.2.1 dX11_ruled_68 rfl (lv_at hl 4 rfl) ?_
            refine lv_if_ne (tgt := 76) E.1 E.2.1 dX11_ruled_69 (by decide) (fun c39 => ?_) (fun c39 => ?_)
            · skip
              have b40 : iv 1 1 x1 := ne_lo c39 b19 (by decide) (by decide)
              refine lv_iload_n E.1 E.2.1 dX11_ruled_76 rfl (lv_at hl 1 rfl) ?_
              exact RET G ⟨oo23, kk25⟩ rfl dX11_ruled_77
            · skip
              have b41 : iv 0 0 x1 := iv_eq c39 (iv_lit (lo := 0) (hi := 0) 0 (by decide) (by decide))
              refine lv_iload_n E.1 E.2.1 dX11_ruled_72 rfl (lv_at hl 2 rfl) ?_
              refine lv_goto (tgt := 77) E.1 E.2.1 dX11_ruled_73 (by decide) ?_
              exact RET G ⟨oo23, kk25⟩ rfl dX11_ruled_77
          · skip
            have b42 : iv 0 6 y29 := le_r (Int32.not_lt.mp c37) (iv_lit (lo := 0) (hi := 0) 0 (by decide) (by decide)) b36 (by decide)
            refine lv_aload_n E.1 E.2.1 dX11_ruled_41 rfl (lv_at hl 3 rfl) ?_
            refine t_get E G 11 30 (rfl : ro 386 = 11) (C := RX11) (T := TX11) (N := 37) rfl (by decide) (by decide) (by decide) mw_fl_11_64 (v := .ref (ad 403)) (fvl_o (n := 17) rfl) dX11_ruled_42 ?_
            refine lv_iload E.1 E.2.1 dX11_ruled_45 (lv_at hl 0 rfl) ?_
            refine t_zald E G 61 (rfl : ro 403 = 61) (by decide) (by decide) rfl (n := 7) rfl (iv_vp b42 (by decide) (by decide)) dX11_ruled_47 ?_
            refine lv_topi (fun v43 e44 => ?_)
            have b45 : iv 0 1 v43 := by rw [e44]; exact iv_mono (rd_u oo23 61 (rfl : ro 403 = 61) (by decide) _) (by decide) (by decide)
            refine lv_if_ne (tgt := 54) E.1 E.2.1 dX11_ruled_48 (by decide) (fun c46 => ?_) (fun c46 => ?_)
            · skip
              have b47 : iv 1 1 v43 := ne_lo c46 b45 (by decide) (by decide)
              refine lv_iload E.1 E.2.1 dX11_ruled_54 (lv_at hl 0 rfl) ?_
              refine lv_iconst (v := 1) E.1 E.2.1 dX11_ruled_56 (by decide) ?_
              refine lv_isub E.1 E.2.1 dX11_ruled_57 ?_
              refine lv_topi (fun v48 e49 => ?_)
              have b50 : iv (-1) 5 v48 := by rw [e49]; exact iv_sub b42 (iv_lit (lo := 1) (hi := 1) 1 (by decide) (by decide)) (by decide) (by decide) (by decide) (by decide)
              have l51 : v48.toInt = (-1) + 1 * y29.toInt := (show v48.toInt = y29.toInt - 1 by rw [e49]; exact ti_subc 1 (by decide) b42 (by decide) (by decide)).trans (by omega)
              refine lv_istore_n (lv' := [(3, .int v48), (4, .int y29), (2, .int y31), (0, .ref (ad 386)), (1, .int x1)]) E.1 E.2.1 dX11_ruled_58 rfl hl (by decide) rfl (fun ls hl => ?_)
              obtain ⟨v52, e53⟩ : ∃ w : Int32, w = y31 + (1 : Int32) := ⟨_, rfl⟩
              refine lv_iinc (v := v52) (lv' := [(2, .int v52), (3, .int v48), (4, .int y29), (0, .ref (ad 386)), (1, .int x1)]) E.1 E.2.1 dX11_ruled_59 hl (k := 2) rfl (by rw [e53]; rfl) (by decide) rfl (fun ls hl => ?_)
              obtain ⟨v54, e55⟩ : ∃ w : Int32, w = y29 + (-1 : Int32) := ⟨_, rfl⟩
              refine lv_iinc (v := v54) (lv' := [(4, .int v54), (2, .int v52), (3, .int v48), (0, .ref (ad 386)), (1, .int x1)]) E.1 E.2.1 dX11_ruled_62 hl (k := 2) rfl (by rw [e55]; rfl) (by decide) rfl (fun ls hl => ?_)
              have b56 : iv (-1) 5 v54 := by rw [e55]; exact iv_add b42 (iv_lit (lo := (-1)) (hi := (-1)) (-1) (by decide) (by decide)) (by decide) (by decide) (by decide) (by decide)
              have t57 : v54.toInt = y29.toInt + (-1) := by rw [e55]; exact ti_addc (-1) (by decide) b42 (by decide) (by decide)
              refine lv_goto (tgt := 36) E.1 E.2.1 dX11_ruled_65 (by decide) ?_
              exact ih36 v54 v48 v52 H locs ls G (iv_mono b56 (by decide) (by decide)) (by have := t57; have := m35; omega) (lv_sub hl [0, 2, 1, 3, 4] rfl)
            · skip
              have b58 : iv 0 0 v43 := iv_eq c46 (iv_lit (lo := 0) (hi := 0) 0 (by decide) (by decide))
              refine lv_goto (tgt := 62) E.1 E.2.1 dX11_ruled_51 (by decide) ?_
              obtain ⟨v59, e60⟩ : ∃ w : Int32, w = y29 + (-1 : Int32) := ⟨_, rfl⟩
              refine lv_iinc (v := v59) (lv' := [(4, .int v59), (3, .int y30), (2, .int y31), (0, .ref (ad 386)), (1, .int x1)]) E.1 E.2.1 dX11_ruled_62 hl (k := 0) rfl (by rw [e60]; rfl) (by decide) rfl (fun ls hl => ?_)
              have b61 : iv (-1) 5 v59 := by rw [e60]; exact iv_add b42 (iv_lit (lo := (-1)) (hi := (-1)) (-1) (by decide) (by decide)) (by decide) (by decide) (by decide) (by decide)
              have t62 : v59.toInt = y29.toInt + (-1) := by rw [e60]; exact ti_addc (-1) (by decide) b42 (by decide) (by decide)
              refine lv_goto (tgt := 36) E.1 E.2.1 dX11_ruled_65 (by decide) ?_
              exact ih36 v59 y30 y31 H locs ls G (iv_mono b61 (by decide) (by decide)) (by have := t62; have := m35; omega) (lv_sub hl [0, 1, 2, 3, 4] rfl)
      exact LOOP36 8 v26 (-2) 0 H locs ls G (iv_mono b28 (by decide) (by decide)) (by have := b28.2; omega) (lv_sub hl [0, 1, 2, 3, 4] rfl)
    · skip
      have b63 : iv 0 0 r12 := iv_eq c17 (iv_lit (lo := 0) (hi := 0) 0 (by decide) (by decide))
      refine lv_bipush (v := (-3)) E.1 E.2.1 dX11_ruled_17 (by decide) ?_
      exact RET G ⟨o, KF.rf⟩ rfl dX11_ruled_19
set_option maxHeartbeats 4000000 in
set_option maxRecDepth 100000 in
theorem v_look (l : Launch) (D : va_G) (K : Nat → ClassId) (ad : Nat → Nat) (z : TS) (o : Ok z) (x1 : Int32) (x2 : Int32) (wf : WFc z) : cI l yX11_look cX11_look 7 .int ({ frames := 9, cells := 0, slots := 0, locals := 216 }) D K ad z [.ref (ad 386), .int x1, .int x2] (fun r u => Ok u ∧ KM z u) := by
  refine t_enterI (by decide) (Nat.le_of_ble_eq_true rfl) rfl rfl ?_
  intro p e s m args below meth c A R Q H locs ls E hfr hlo RET G hl
  have E : mE p s m meth c cX11_look args 7 RX11 D K A := E
  have hl : lv_has ls 7 [(0, .ref (ad 386)), (1, .int x1), (2, .int x2)] := hl
  refine lv_aload_n E.1 E.2.1 dX11_look_0 rfl (lv_at hl 0 rfl) ?_
  refine t_vi E G hl (v_isTown l D K ad z o) 11 (rfl : ro 386 = 11) (by decide) rfl rfl 0 rfl mw_code_X11_isTown mw_ini_11 mw_ml_11_359 mw_inst_X11_isTown mw_sel_X11_isTown hd_X11_isTown ⟨Nat.le_trans (by decide) hfr, Nat.le_trans (by decide) hlo⟩ rfl rfl rfl (Nat.le_of_ble_eq_true rfl) dX11_look_1 (fun r2 zz1 H locs hp3 G => ?_)
  obtain ⟨hz5, b4⟩ := hp3
  rw [hz5] at G
  refine lv_if_eq (tgt := 29) E.1 E.2.1 dX11_look_4 (by decide) (fun c6 => ?_) (fun c6 => ?_)
  · skip
    have b7 : iv 0 0 r2 := iv_eq c6 (iv_lit (lo := 0) (hi := 0) 0 (by decide) (by decide))
    refine lv_iconst (v := (-1)) E.1 E.2.1 dX11_look_29 (by decide) ?_
    exact RET G ⟨o, KF.rf⟩ rfl dX11_look_30
  · skip
    have b8 : iv 1 1 r2 := ne_lo c6 b4 (by decide) (by decide)
    refine lv_iload_n E.1 E.2.1 dX11_look_7 rfl (lv_at hl 1 rfl) ?_
    refine lv_i2l E.1 E.2.1 dX11_look_8 rfl ?_
    refine lv_topl (fun v9 e10 => ?_)
    refine lv_lconst (v := 0) E.1 E.2.1 dX11_look_9 (by decide) ?_
    refine lv_ldc2 (v := 60) E.1 E.2.1 E.2.2.2.1 (E.2.2.2.2.1 _ mw_cL_11_429) dX11_look_10 ?_
    refine t_si E G hl (v_in l D K ad z o v9 0 60) 3 rfl mw_code_X11_in mw_ini_11 mw_ml_11_121 mw_stat_X11_in hd_X11_in ⟨Nat.le_trans (by decide) hfr, Nat.le_trans (by decide) hlo⟩ rfl rfl rfl (Nat.le_of_ble_eq_true rfl) dX11_look_13 (fun r12 zz11 H locs hp13 G => ?_)
    obtain ⟨hz16, b14, h15⟩ := hp13
    rw [hz16] at G
    refine lv_if_eq (tgt := 29) E.1 E.2.1 dX11_look_16 (by decide) (fun c17 => ?_) (fun c17 => ?_)
    · skip
      have b18 : iv 0 0 r12 := iv_eq c17 (iv_lit (lo := 0) (hi := 0) 0 (by decide) (by decide))
      refine lv_iconst (v := (-1)) E.1 E.2.1 dX11_look_29 (by decide) ?_
      exact RET G ⟨o, KF.rf⟩ rfl dX11_look_30
    · skip
      have b19 : iv 1 1 r12 := ne_lo c17 b14 (by decide) (by decide)
      have b20 : iv 0 60 x1 := (fun q => in_iv e10 (h15 q) (by decide) (by decide)) c17
      refine lv_iload_n E.1 E.2.1 dX11_look_19 rfl (lv_at hl 2 rfl) ?_
      refine lv_i2l E.1 E.2.1 dX11_look_20 rfl ?_
      refine lv_topl (fun v21 e22 => ?_)
      refine lv_lconst (v := 0) E.1 E.2.1 dX11_look_21 (by decide) ?_
      refine lv_lconst (v := 1) E.1 E.2.1 dX11_look_22 (by decide) ?_
      refine t_si E G hl (v_in l D K ad z o v21 0 1) 3 rfl mw_code_X11_in mw_ini_11 mw_ml_11_121 mw_stat_X11_in hd_X11_in ⟨Nat.le_trans (by decide) hfr, Nat.le_trans (by decide) hlo⟩ rfl rfl rfl (Nat.le_of_ble_eq_true rfl) dX11_look_23 (fun r24 zz23 H locs hp25 G => ?_)
      obtain ⟨hz28, b26, h27⟩ := hp25
      rw [hz28] at G
      refine lv_if_ne (tgt := 31) E.1 E.2.1 dX11_look_26 (by decide) (fun c29 => ?_) (fun c29 => ?_)
      · skip
        have b30 : iv 1 1 r24 := ne_lo c29 b26 (by decide) (by decide)
        have b31 : iv 0 1 x2 := (fun q => in_iv e22 (h27 q) (by decide) (by decide)) c29
        refine lv_aload_n E.1 E.2.1 dX11_look_31 rfl (lv_at hl 0 rfl) ?_
        refine lv_iload_n E.1 E.2.1 dX11_look_32 rfl (lv_at hl 1 rfl) ?_
        refine t_vv E G hl (v_fillsFits l D K ad z o x1 wf) 11 (rfl : ro 386 = 11) (by decide) rfl rfl 1 rfl mw_code_X11_fillsFits mw_ini_11 mw_ml_11_437 mw_inst_X11_fillsFits mw_sel_X11_fillsFits hd_X11_fillsFits ⟨Nat.le_trans (by decide) hfr, Nat.le_trans (by decide) hlo⟩ rfl rfl rfl (Nat.le_of_ble_eq_true rfl) dX11_look_33 (fun zz32 H locs hp34 G => ?_)
        obtain ⟨oo35, kk36⟩ := hp34
        have kk37 : KM z zz32 := KF.tr KF.rf kk36
        refine lv_bipush (v := (-2)) E.1 E.2.1 dX11_look_36 (by decide) ?_
        refine lv_istore_n (lv' := [(3, .int (-2)), (0, .ref (ad 386)), (1, .int x1), (2, .int x2)]) E.1 E.2.1 dX11_look_38 rfl hl (by decide) rfl (fun ls hl => ?_)
        refine lv_bipush (v := (-2)) E.1 E.2.1 dX11_look_39 (by decide) ?_
        refine lv_istore (lv' := [(4, .int (-2)), (3, .int (-2)), (0, .ref (ad 386)), (1, .int x1), (2, .int x2)]) E.1 E.2.1 dX11_look_41 hl (by decide) rfl (fun ls hl => ?_)
        refine lv_iconst (v := 0) E.1 E.2.1 dX11_look_43 (by decide) ?_
        refine lv_istore (lv' := [(5, .int 0), (4, .int (-2)), (3, .int (-2)), (0, .ref (ad 386)), (1, .int x1), (2, .int x2)]) E.1 E.2.1 dX11_look_44 hl (by decide) rfl (fun ls hl => ?_)
        have LOOP46 : ∀ n : Nat, ∀ (y38 : Int32) (y39 : Int32) (y40 : Int32) (H : Heap) (locs : List Loc) (ls : Array Slot), mG D A s H locs (wd K ad zz32) → iv 0 5 y38 → 5 < y38.toInt + (n : Int) → lv_has ls 7 [(5, .int y38), (4, .int y39), (3, .int y40), (0, .ref (ad 386)), (1, .int x1), (2, .int x2)] → W p l e R s m args below meth c H locs 0 0 Q (F0 m 46 ls []) := by
          intro n
          induction n with
          | zero =>
            intro y38 y39 y40 H locs ls G b45 m44 hl
            exact absurd m44 (by have := b45.1; have := b45.2; omega)
          | succ n ih46 =>
            intro y38 y39 y40 H locs ls G b45 m44 hl
            refine lv_iload E.1 E.2.1 dX11_look_46 (lv_at hl 0 rfl) ?_
            refine lv_aload_n E.1 E.2.1 dX11_look_48 rfl (lv_at hl 3 rfl) ?_
            refine t_get E G 11 20 (rfl : ro 386 = 11) (C := RX11) (T := TX11) (N := 37) rfl (by decide) (by decide) (by decide) mw_fl_11_39 (v := .ref (ad 396)) (fvl_o (n := 10) rfl) dX11_look_49 ?_
            refine lv_iconst (v := 4) E.1 E.2.1 dX11_look_52 (by decide) ?_
            refine t_iald E G 54 (rfl : ro 396 = 54) (by decide) (by decide) rfl (n := 127) rfl (by unfold vp_in; decide) dX11_look_53 ?_
            refine lv_topi (fun v46 e47 => ?_)
            have b48 : iv 0 5 v46 := by rw [e47]; exact iv_mono (oo35.a 54 (rfl : ro 396 = 54) _) (by decide +kernel) (by decide +kernel)
            refine lv_icmp_ge (tgt := 97) E.1 E.2.1 dX11_look_54 (by decide) (fun c49 => ?_) (fun c49 => ?_)
            · skip
              refine lv_iload_n E.1 E.2.1 dX11_look_97 rfl (lv_at hl 5 rfl) ?_
              refine lv_if_ne (tgt := 105) E.1 E.2.1 dX11_look_98 (by decide) (fun c50 => ?_) (fun c50 => ?_)
              · skip
                have b51 : iv 1 1 x2 := ne_lo c50 b31 (by decide) (by decide)
                refine lv_iload E.1 E.2.1 dX11_look_105 (lv_at hl 1 rfl) ?_
                exact RET G ⟨oo35, kk37⟩ rfl dX11_look_107
              · skip
                have b52 : iv 0 0 x2 := iv_eq c50 (iv_lit (lo := 0) (hi := 0) 0 (by decide) (by decide))
                refine lv_iload_n E.1 E.2.1 dX11_look_101 rfl (lv_at hl 2 rfl) ?_
                refine lv_goto (tgt := 107) E.1 E.2.1 dX11_look_102 (by decide) ?_
                exact RET G ⟨oo35, kk37⟩ rfl dX11_look_107
            · skip
              have b53 : iv 0 4 y38 := lt_l (Int32.not_le.mp c49) b45 b48 (by decide)
              have b54 : iv 1 5 v46 := lt_r (Int32.not_le.mp c49) b45 b48 (by decide)
              refine lv_aload_n E.1 E.2.1 dX11_look_57 rfl (lv_at hl 3 rfl) ?_
              refine lv_iload E.1 E.2.1 dX11_look_58 (lv_at hl 0 rfl) ?_
              refine t_vi E G hl (v_alikeAt l D K ad zz32 oo35 y38 (iv_mono b53 (by decide) (by decide))) 11 (rfl : ro 386 = 11) (by decide) rfl rfl 1 rfl mw_code_X11_alikeAt mw_ini_11 mw_ml_11_440 mw_inst_X11_alikeAt mw_sel_X11_alikeAt hd_X11_alikeAt ⟨Nat.le_trans (by decide) hfr, Nat.le_trans (by decide) hlo⟩ rfl rfl rfl (Nat.le_of_ble_eq_true rfl) dX11_look_60 (fun r56 zz55 H locs hp57 G => ?_)
              have hz58 := hp57
              rw [hz58] at G
              refine lv_istore (lv' := [(6, .int r56), (5, .int y38), (4, .int y39), (3, .int y40), (0, .ref (ad 386)), (1, .int x1), (2, .int x2)]) E.1 E.2.1 dX11_look_63 hl (by decide) rfl (fun ls hl => ?_)
              refine lv_iload E.1 E.2.1 dX11_look_65 (lv_at hl 0 rfl) ?_
              refine lv_if_eq (tgt := 91) E.1 E.2.1 dX11_look_67 (by decide) (fun c59 => ?_) (fun c59 => ?_)
              · skip
                have b60 : iv 0 0 r56 := iv_eq c59 (iv_lit (lo := 0) (hi := 0) 0 (by decide) (by decide))
                obtain ⟨v61, e62⟩ : ∃ w : Int32, w = y38 + (1 : Int32) := ⟨_, rfl⟩
                refine lv_iinc (v := v61) (lv' := [(5, .int v61), (6, .int r56), (4, .int y39), (3, .int y40), (0, .ref (ad 386)), (1, .int x1), (2, .int x2)]) E.1 E.2.1 dX11_look_91 hl (k := 1) rfl (by rw [e62]; rfl) (by decide) rfl (fun ls hl => ?_)
                have b63 : iv 1 5 v61 := by rw [e62]; exact iv_add b53 (iv_lit (lo := 1) (hi := 1) 1 (by decide) (by decide)) (by decide) (by decide) (by decide) (by decide)
                have t64 : v61.toInt = y38.toInt + 1 := by rw [e62]; exact ti_addc 1 (by decide) b53 (by decide) (by decide)
                refine lv_goto (tgt := 46) E.1 E.2.1 dX11_look_94 (by decide) ?_
                exact ih46 v61 y39 y40 H locs ls G (iv_mono b63 (by decide) (by decide)) (by have := t64; have := m44; omega) (lv_sub hl [0, 2, 3, 4, 5, 6] rfl)
              · skip
                refine lv_iload_n E.1 E.2.1 dX11_look_70 rfl (lv_at hl 3 rfl) ?_
                refine lv_if_lt (tgt := 84) E.1 E.2.1 dX11_look_71 (by decide) (fun c65 => ?_) (fun c65 => ?_)
                · skip
                  have b66 : iv (-2147483648) (-1) y40 := lt_l c65 (iv_full y40) (iv_lit (lo := 0) (hi := 0) 0 (by decide) (by decide)) (by decide)
                  refine lv_iload E.1 E.2.1 dX11_look_84 (lv_at hl 1 rfl) ?_
                  refine lv_istore_n (lv' := [(3, .int y38), (6, .int r56), (5, .int y38), (4, .int y39), (0, .ref (ad 386)), (1, .int x1), (2, .int x2)]) E.1 E.2.1 dX11_look_86 rfl hl (by decide) rfl (fun ls hl => ?_)
                  refine lv_iload E.1 E.2.1 dX11_look_87 (lv_at hl 1 rfl) ?_
                  refine lv_istore (lv' := [(4, .int r56), (3, .int y38), (6, .int r56), (5, .int y38), (0, .ref (ad 386)), (1, .int x1), (2, .int x2)]) E.1 E.2.1 dX11_look_89 hl (by decide) rfl (fun ls hl => ?_)
                  obtain ⟨v67, e68⟩ : ∃ w : Int32, w = y38 + (1 : Int32) := ⟨_, rfl⟩
                  refine lv_iinc (v := v67) (lv' := [(5, .int v67), (4, .int r56), (3, .int y38), (6, .int r56), (0, .ref (ad 386)), (1, .int x1), (2, .int x2)]) E.1 E.2.1 dX11_look_91 hl (k := 3) rfl (by rw [e68]; rfl) (by decide) rfl (fun ls hl => ?_)
                  have b69 : iv 1 5 v67 := by rw [e68]; exact iv_add b53 (iv_lit (lo := 1) (hi := 1) 1 (by decide) (by decide)) (by decide) (by decide) (by decide) (by decide)
                  have t70 : v67.toInt = y38.toInt + 1 := by rw [e68]; exact ti_addc 1 (by decide) b53 (by decide) (by decide)
                  refine lv_goto (tgt := 46) E.1 E.2.1 dX11_look_94 (by decide) ?_
                  exact ih46 v67 r56 y38 H locs ls G (iv_mono b69 (by decide) (by decide)) (by have := t70; have := m44; omega) (lv_sub hl [0, 1, 2, 4, 5, 6] rfl)
                · skip
                  have b71 : iv 0 2147483647 y40 := le_r (Int32.not_lt.mp c65) (iv_lit (lo := 0) (hi := 0) 0 (by decide) (by decide)) (iv_full y40) (by decide)
                  refine lv_iload E.1 E.2.1 dX11_look_74 (lv_at hl 0 rfl) ?_
                  refine lv_iload E.1 E.2.1 dX11_look_76 (lv_at hl 2 rfl) ?_
                  refine lv_icmp_lt (tgt := 84) E.1 E.2.1 dX11_look_78 (by decide) (fun c72 => ?_) (fun c72 => ?_)
                  · skip
                    have b73 : iv (-2147483648) 2147483646 r56 := lt_l c72 (iv_full r56) (iv_full y39) (by decide)
                    have b74 : iv (-2147483647) 2147483647 y39 := lt_r c72 (iv_full r56) (iv_full y39) (by decide)
                    refine lv_iload E.1 E.2.1 dX11_look_84 (lv_at hl 1 rfl) ?_
                    refine lv_istore_n (lv' := [(3, .int y38), (6, .int r56), (5, .int y38), (4, .int y39), (0, .ref (ad 386)), (1, .int x1), (2, .int x2)]) E.1 E.2.1 dX11_look_86 rfl hl (by decide) rfl (fun ls hl => ?_)
                    refine lv_iload E.1 E.2.1 dX11_look_87 (lv_at hl 1 rfl) ?_
                    refine lv_istore (lv' := [(4, .int r56), (3, .int y38), (6, .int r56), (5, .int y38), (0, .ref (ad 386)), (1, .int x1), (2, .int x2)]) E.1 E.2.1 dX11_look_89 hl (by decide) rfl (fun ls hl => ?_)
                    obtain ⟨v75, e76⟩ : ∃ w : Int32, w = y38 + (1 : Int32) := ⟨_, rfl⟩
                    refine lv_iinc (v := v75) (lv' := [(5, .int v75), (4, .int r56), (3, .int y38), (6, .int r56), (0, .ref (ad 386)), (1, .int x1), (2, .int x2)]) E.1 E.2.1 dX11_look_91 hl (k := 3) rfl (by rw [e76]; rfl) (by decide) rfl (fun ls hl => ?_)
                    have b77 : iv 1 5 v75 := by rw [e76]; exact iv_add b53 (iv_lit (lo := 1) (hi := 1) 1 (by decide) (by decide)) (by decide) (by decide) (by decide) (by decide)
                    have t78 : v75.toInt = y38.toInt + 1 := by rw [e76]; exact ti_addc 1 (by decide) b53 (by decide) (by decide)
                    refine lv_goto (tgt := 46) E.1 E.2.1 dX11_look_94 (by decide) ?_
                    exact ih46 v75 r56 y38 H locs ls G (iv_mono b77 (by decide) (by decide)) (by have := t78; have := m44; omega) (lv_sub hl [0, 1, 2, 4, 5, 6] rfl)
                  · skip
                    refine lv_goto (tgt := 91) E.1 E.2.1 dX11_look_81 (by decide) ?_
                    obtain ⟨v79, e80⟩ : ∃ w : Int32, w = y38 + (1 : Int32) := ⟨_, rfl⟩
                    refine lv_iinc (v := v79) (lv' := [(5, .int v79), (6, .int r56), (4, .int y39), (3, .int y40), (0, .ref (ad 386)), (1, .int x1), (2, .int x2)]) E.1 E.2.1 dX11_look_91 hl (k := 1) rfl (by rw [e80]; rfl) (by decide) rfl (fun ls hl => ?_)
                    have b81 : iv 1 5 v79 := by rw [e80]; exact iv_add b53 (iv_lit (lo := 1) (hi := 1) 1 (by decide) (by decide)) (by decide) (by decide) (by decide) (by decide)
                    have t82 : v79.toInt = y38.toInt + 1 := by rw [e80]; exact ti_addc 1 (by decide) b53 (by decide) (by decide)
                    refine lv_goto (tgt := 46) E.1 E.2.1 dX11_look_94 (by decide) ?_
                    exact ih46 v79 y39 y40 H locs ls G (iv_mono b81 (by decide) (by decide)) (by have := t82; have := m44; omega) (lv_sub hl [0, 2, 3, 4, 5, 6] rfl)
        exact LOOP46 6 0 (-2) (-2) H locs ls G (iv_mono (iv_lit (lo := 0) (hi := 0) 0 (by decide) (by decide)) (by decide) (by decide)) (by have := (iv_lit (lo := 0) (hi := 0) 0 (by decide) (by decide)).1; omega) (lv_sub hl [0, 1, 2, 3, 4, 5] rfl)
      · skip
        have b83 : iv 0 0 r24 := iv_eq c29 (iv_lit (lo := 0) (hi := 0) 0 (by decide) (by decide))
        refine lv_iconst (v := (-1)) E.1 E.2.1 dX11_look_29 (by decide) ?_
        exact RET G ⟨o, KF.rf⟩ rfl dX11_look_30
set_option maxHeartbeats 4000000 in
set_option maxRecDepth 100000 in
theorem v_canBe_h (l : Launch) (D : va_G) (K : Nat → ClassId) (ad : Nat → Nat) (z : TS) (o : Ok z) (x1 : Int32) (bx1 : iv 61 65 x1) (x2 : Int32) (bx2 : iv 0 9 x2) (wf : WFc z) : cI l yX11_canBe cX11_canBe 6 .int ({ frames := 8, cells := 0, slots := 0, locals := 193 }) D K ad z [.ref (ad 386), .int x1, .int x2] (fun r u => Ok u ∧ KM z u) := by
  refine t_enterI (by decide) (Nat.le_of_ble_eq_true rfl) rfl rfl ?_
  intro p e s m args below meth c A R Q H locs ls E hfr hlo RET G hl
  have E : mE p s m meth c cX11_canBe args 6 RX11 D K A := E
  have hl : lv_has ls 6 [(0, .ref (ad 386)), (1, .int x1), (2, .int x2)] := hl
  refine lv_aload_n E.1 E.2.1 dX11_canBe_0 rfl (lv_at hl 0 rfl) ?_
  refine t_get E G 11 20 (rfl : ro 386 = 11) (C := RX11) (T := TX11) (N := 37) rfl (by decide) (by decide) (by decide) mw_fl_11_39 (v := .ref (ad 396)) (fvl_o (n := 10) rfl) dX11_canBe_1 ?_
  refine lv_iload_n E.1 E.2.1 dX11_canBe_4 rfl (lv_at hl 1 rfl) ?_
  refine t_iald E G 54 (rfl : ro 396 = 54) (by decide) (by decide) rfl (n := 127) rfl (iv_vp bx1 (by decide) (by decide)) dX11_canBe_5 ?_
  refine lv_topi (fun v1 e2 => ?_)
  refine lv_istore_n (lv' := [(3, .int v1), (0, .ref (ad 386)), (1, .int x1), (2, .int x2)]) E.1 E.2.1 dX11_canBe_6 rfl hl (by decide) rfl (fun ls hl => ?_)
  refine lv_iconst (v := 0) E.1 E.2.1 dX11_canBe_7 (by decide) ?_
  refine lv_istore (lv' := [(4, .int 0), (3, .int v1), (0, .ref (ad 386)), (1, .int x1), (2, .int x2)]) E.1 E.2.1 dX11_canBe_8 hl (by decide) rfl (fun ls hl => ?_)
  refine lv_aload_n E.1 E.2.1 dX11_canBe_10 rfl (lv_at hl 2 rfl) ?_
  refine t_vv E G hl (v_keeps l D K ad z o) 11 (rfl : ro 386 = 11) (by decide) rfl rfl 0 rfl mw_code_X11_keeps mw_ini_11 mw_ml_11_373 mw_inst_X11_keeps mw_sel_X11_keeps hd_X11_keeps ⟨Nat.le_trans (by decide) hfr, Nat.le_trans (by decide) hlo⟩ rfl rfl rfl (Nat.le_of_ble_eq_true rfl) dX11_canBe_11 (fun zz3 H locs hp5 G => ?_)
  obtain ⟨oo6, kk7⟩ := hp5
  have kk8 : KM z zz3 := KF.tr KF.rf kk7
  refine lv_iconst (v := 0) E.1 E.2.1 dX11_canBe_14 (by decide) ?_
  refine lv_istore (lv' := [(5, .int 0), (4, .int 0), (3, .int v1), (0, .ref (ad 386)), (1, .int x1), (2, .int x2)]) E.1 E.2.1 dX11_canBe_15 hl (by decide) rfl (fun ls hl => ?_)
  have LOOP17 : ∀ n : Nat, ∀ (zz11 : TS) (y9 : Int32) (y10 : Int32) (H : Heap) (locs : List Loc) (ls : Array Slot), mG D A s H locs (wd K ad zz11) → Ok zz11 → KM z zz11 → iv 0 10 y9 → 10 < y9.toInt + (n : Int) → lv_has ls 6 [(5, .int y9), (4, .int y10), (3, .int v1), (0, .ref (ad 386)), (1, .int x1), (2, .int x2)] → W p l e R s m args below meth c H locs 0 0 Q (F0 m 17 ls []) := by
    intro n
    induction n with
    | zero =>
      intro zz11 y9 y10 H locs ls G oo12 kk13 b15 m14 hl
      exact absurd m14 (by have := b15.1; have := b15.2; omega)
    | succ n ih17 =>
      intro zz11 y9 y10 H locs ls G oo12 kk13 b15 m14 hl
      refine lv_iload E.1 E.2.1 dX11_canBe_17 (lv_at hl 0 rfl) ?_
      refine lv_iload_n E.1 E.2.1 dX11_canBe_19 rfl (lv_at hl 5 rfl) ?_
      refine lv_icmp_gt (tgt := 59) E.1 E.2.1 dX11_canBe_20 (by decide) (fun c16 => ?_) (fun c16 => ?_)
      · skip
        have b17 : iv 1 10 y9 := lt_r c16 bx2 b15 (by decide)
        refine lv_aload_n E.1 E.2.1 dX11_canBe_59 rfl (lv_at hl 3 rfl) ?_
        refine t_get E G 11 20 (rfl : ro 386 = 11) (C := RX11) (T := TX11) (N := 37) rfl (by decide) (by decide) (by decide) mw_fl_11_39 (v := .ref (ad 396)) (fvl_o (n := 10) rfl) dX11_canBe_60 ?_
        refine lv_iload_n E.1 E.2.1 dX11_canBe_63 rfl (lv_at hl 4 rfl) ?_
        refine lv_iload_n E.1 E.2.1 dX11_canBe_64 rfl (lv_at hl 2 rfl) ?_
        refine t_iast E G 54 (rfl : ro 396 = 54) (by decide) (by decide) rfl (n := 127) rfl (iv_vp bx1 (by decide) (by decide)) dX11_canBe_65 (fun H locs G => ?_)
        obtain ⟨zz18, G, oo19, kk20⟩ : ∃ u : TS, mG D A s H locs (wd K ad u) ∧ Ok u ∧ KM z u := ⟨_, G, ok_u oo12 54 (rfl : ro 396 = 54) (wr1 0 1 61 65 (iv_full v1) bx1 (by omega) (by decide +kernel)) (by decide), KF.tr kk13 (KF_r 54 (rfl : ro 396 = 54) (by decide))⟩
        refine lv_aload_n E.1 E.2.1 dX11_canBe_66 rfl (lv_at hl 3 rfl) ?_
        refine t_vv E G hl (v_laysBack l D K ad zz18 oo19) 11 (rfl : ro 386 = 11) (by decide) rfl rfl 0 rfl mw_code_X11_laysBack mw_ini_11 mw_ml_11_382 mw_inst_X11_laysBack mw_sel_X11_laysBack hd_X11_laysBack ⟨Nat.le_trans (by decide) hfr, Nat.le_trans (by decide) hlo⟩ rfl rfl rfl (Nat.le_of_ble_eq_true rfl) dX11_canBe_67 (fun zz21 H locs hp23 G => ?_)
        obtain ⟨oo24, kk25⟩ := hp23
        have kk26 : KM z zz21 := KF.tr kk20 kk25
        refine lv_iload E.1 E.2.1 dX11_canBe_70 (lv_at hl 1 rfl) ?_
        exact RET G ⟨oo24, kk26⟩ rfl dX11_canBe_72
      · skip
        have b27 : iv 0 9 y9 := le_l (Int32.not_lt.mp c16) b15 bx2 (by decide)
        refine lv_aload_n E.1 E.2.1 dX11_canBe_23 rfl (lv_at hl 3 rfl) ?_
        refine t_get E G 11 20 (rfl : ro 386 = 11) (C := RX11) (T := TX11) (N := 37) rfl (by decide) (by decide) (by decide) mw_fl_11_39 (v := .ref (ad 396)) (fvl_o (n := 10) rfl) dX11_canBe_24 ?_
        refine lv_iload_n E.1 E.2.1 dX11_canBe_27 rfl (lv_at hl 4 rfl) ?_
        refine lv_iload E.1 E.2.1 dX11_canBe_28 (lv_at hl 0 rfl) ?_
        refine t_iast E G 54 (rfl : ro 396 = 54) (by decide) (by decide) rfl (n := 127) rfl (iv_vp bx1 (by decide) (by decide)) dX11_canBe_30 (fun H locs G => ?_)
        obtain ⟨zz28, G, oo29, kk30⟩ : ∃ u : TS, mG D A s H locs (wd K ad u) ∧ Ok u ∧ KM z u := ⟨_, G, ok_u oo12 54 (rfl : ro 396 = 54) (wr1 0 1 61 65 b27 bx1 (by omega) (by decide +kernel)) (by decide), KF.tr kk13 (KF_r 54 (rfl : ro 396 = 54) (by decide))⟩
        refine lv_aload_n E.1 E.2.1 dX11_canBe_31 rfl (lv_at hl 3 rfl) ?_
        refine t_vv E G hl (v_begins l D K ad zz28 oo29) 11 (rfl : ro 386 = 11) (by decide) rfl rfl 0 rfl mw_code_X11_begins mw_ini_11 mw_ml_11_264 mw_inst_X11_begins mw_sel_X11_begins hd_X11_begins ⟨Nat.le_trans (by decide) hfr, Nat.le_trans (by decide) hlo⟩ rfl rfl rfl (Nat.le_of_ble_eq_true rfl) dX11_canBe_32 (fun zz31 H locs hp33 G => ?_)
        obtain ⟨oo34, kk35⟩ := hp33
        have kk36 : KM z zz31 := KF.tr kk30 kk35
        refine lv_aload_n E.1 E.2.1 dX11_canBe_35 rfl (lv_at hl 3 rfl) ?_
        refine lv_iconst (v := 0) E.1 E.2.1 dX11_canBe_36 (by decide) ?_
        refine lv_iconst (v := (-1)) E.1 E.2.1 dX11_canBe_37 (by decide) ?_
        refine t_vi E G hl (v_areAllSo l D K ad zz31 oo34 (0 : Int32) (iv_mono (iv_lit (lo := 0) (hi := 0) 0 (by decide) (by decide)) (by decide) (by decide)) (-1 : Int32) (wf_ka wf kk36.2.1 rfl rfl rfl rfl)) 11 (rfl : ro 386 = 11) (by decide) rfl rfl 2 rfl mw_code_X11_areAllSo mw_ini_11 mw_ml_11_434 mw_inst_X11_areAllSo mw_sel_X11_areAllSo hd_X11_areAllSo ⟨Nat.le_trans (by decide) hfr, Nat.le_trans (by decide) hlo⟩ rfl rfl rfl (Nat.le_of_ble_eq_true rfl) dX11_canBe_38 (fun r38 zz37 H locs hp39 G => ?_)
        obtain ⟨oo40, kk41, b42⟩ := hp39
        have kk43 : KM z zz37 := KF.tr kk36 kk41
        refine lv_if_eq (tgt := 53) E.1 E.2.1 dX11_canBe_41 (by decide) (fun c44 => ?_) (fun c44 => ?_)
        · skip
          have b45 : iv 0 0 r38 := iv_eq c44 (iv_lit (lo := 0) (hi := 0) 0 (by decide) (by decide))
          obtain ⟨v46, e47⟩ : ∃ w : Int32, w = y9 + (1 : Int32) := ⟨_, rfl⟩
          refine lv_iinc (v := v46) (lv' := [(5, .int v46), (4, .int y10), (3, .int v1), (0, .ref (ad 386)), (1, .int x1), (2, .int x2)]) E.1 E.2.1 dX11_canBe_53 hl (k := 0) rfl (by rw [e47]; rfl) (by decide) rfl (fun ls hl => ?_)
          have b48 : iv 1 10 v46 := by rw [e47]; exact iv_add b27 (iv_lit (lo := 1) (hi := 1) 1 (by decide) (by decide)) (by decide) (by decide) (by decide) (by decide)
          have t49 : v46.toInt = y9.toInt + 1 := by rw [e47]; exact ti_addc 1 (by decide) b27 (by decide) (by decide)
          refine lv_goto (tgt := 17) E.1 E.2.1 dX11_canBe_56 (by decide) ?_
          exact ih17 zz37 v46 y10 H locs ls G oo40 kk43 (iv_mono b48 (by decide) (by decide)) (by have := t49; have := m14; omega) (lv_sub hl [0, 1, 2, 3, 4, 5] rfl)
        · skip
          have b50 : iv 1 1 r38 := ne_lo c44 b42 (by decide) (by decide)
          refine lv_iload E.1 E.2.1 dX11_canBe_44 (lv_at hl 1 rfl) ?_
          refine lv_iconst (v := 1) E.1 E.2.1 dX11_canBe_46 (by decide) ?_
          refine lv_iload E.1 E.2.1 dX11_canBe_47 (lv_at hl 0 rfl) ?_
          refine lv_ishl E.1 E.2.1 dX11_canBe_49 ?_
          refine lv_topi (fun v51 e52 => ?_)
          refine lv_ior E.1 E.2.1 dX11_canBe_50 ?_
          refine lv_topi (fun v53 e54 => ?_)
          refine lv_istore (lv' := [(4, .int v53), (5, .int y9), (3, .int v1), (0, .ref (ad 386)), (1, .int x1), (2, .int x2)]) E.1 E.2.1 dX11_canBe_51 hl (by decide) rfl (fun ls hl => ?_)
          obtain ⟨v55, e56⟩ : ∃ w : Int32, w = y9 + (1 : Int32) := ⟨_, rfl⟩
          refine lv_iinc (v := v55) (lv' := [(5, .int v55), (4, .int v53), (3, .int v1), (0, .ref (ad 386)), (1, .int x1), (2, .int x2)]) E.1 E.2.1 dX11_canBe_53 hl (k := 1) rfl (by rw [e56]; rfl) (by decide) rfl (fun ls hl => ?_)
          have b57 : iv 1 10 v55 := by rw [e56]; exact iv_add b27 (iv_lit (lo := 1) (hi := 1) 1 (by decide) (by decide)) (by decide) (by decide) (by decide) (by decide)
          have t58 : v55.toInt = y9.toInt + 1 := by rw [e56]; exact ti_addc 1 (by decide) b27 (by decide) (by decide)
          refine lv_goto (tgt := 17) E.1 E.2.1 dX11_canBe_56 (by decide) ?_
          exact ih17 zz37 v55 v53 H locs ls G oo40 kk43 (iv_mono b57 (by decide) (by decide)) (by have := t58; have := m14; omega) (lv_sub hl [0, 1, 2, 3, 4, 5] rfl)
  exact LOOP17 11 zz3 0 0 H locs ls G oo6 kk8 (iv_mono (iv_lit (lo := 0) (hi := 0) 0 (by decide) (by decide)) (by decide) (by decide)) (by have := (iv_lit (lo := 0) (hi := 0) 0 (by decide) (by decide)).1; omega) (lv_sub hl [0, 1, 2, 3, 4, 5] rfl)
set_option maxHeartbeats 4000000 in
set_option maxRecDepth 100000 in
theorem v_canBe_w (l : Launch) (D : va_G) (K : Nat → ClassId) (ad : Nat → Nat) (z : TS) (o : Ok z) (x1 : Int32) (bx1 : iv 79 87 x1) (x2 : Int32) (bx2 : iv 0 9 x2) (wf : WFc z) (hc : ∃ w : Int, (0 ≤ w ∧ w ≤ 4) ∧ x1.toInt = 79 + 2 * w) : cI l yX11_canBe cX11_canBe 6 .int ({ frames := 8, cells := 0, slots := 0, locals := 193 }) D K ad z [.ref (ad 386), .int x1, .int x2] (fun r u => Ok u ∧ KM z u) := by
  obtain ⟨w, bw, ew⟩ := hc
  refine t_enterI (by decide) (Nat.le_of_ble_eq_true rfl) rfl rfl ?_
  intro p e s m args below meth c A R Q H locs ls E hfr hlo RET G hl
  have E : mE p s m meth c cX11_canBe args 6 RX11 D K A := E
  have hl : lv_has ls 6 [(0, .ref (ad 386)), (1, .int x1), (2, .int x2)] := hl
  refine lv_aload_n E.1 E.2.1 dX11_canBe_0 rfl (lv_at hl 0 rfl) ?_
  refine t_get E G 11 20 (rfl : ro 386 = 11) (C := RX11) (T := TX11) (N := 37) rfl (by decide) (by decide) (by decide) mw_fl_11_39 (v := .ref (ad 396)) (fvl_o (n := 10) rfl) dX11_canBe_1 ?_
  refine lv_iload_n E.1 E.2.1 dX11_canBe_4 rfl (lv_at hl 1 rfl) ?_
  refine t_iald E G 54 (rfl : ro 396 = 54) (by decide) (by decide) rfl (n := 127) rfl (iv_vp bx1 (by decide) (by decide)) dX11_canBe_5 ?_
  refine lv_topi (fun v1 e2 => ?_)
  refine lv_istore_n (lv' := [(3, .int v1), (0, .ref (ad 386)), (1, .int x1), (2, .int x2)]) E.1 E.2.1 dX11_canBe_6 rfl hl (by decide) rfl (fun ls hl => ?_)
  refine lv_iconst (v := 0) E.1 E.2.1 dX11_canBe_7 (by decide) ?_
  refine lv_istore (lv' := [(4, .int 0), (3, .int v1), (0, .ref (ad 386)), (1, .int x1), (2, .int x2)]) E.1 E.2.1 dX11_canBe_8 hl (by decide) rfl (fun ls hl => ?_)
  refine lv_aload_n E.1 E.2.1 dX11_canBe_10 rfl (lv_at hl 2 rfl) ?_
  refine t_vv E G hl (v_keeps l D K ad z o) 11 (rfl : ro 386 = 11) (by decide) rfl rfl 0 rfl mw_code_X11_keeps mw_ini_11 mw_ml_11_373 mw_inst_X11_keeps mw_sel_X11_keeps hd_X11_keeps ⟨Nat.le_trans (by decide) hfr, Nat.le_trans (by decide) hlo⟩ rfl rfl rfl (Nat.le_of_ble_eq_true rfl) dX11_canBe_11 (fun zz3 H locs hp5 G => ?_)
  obtain ⟨oo6, kk7⟩ := hp5
  have kk8 : KM z zz3 := KF.tr KF.rf kk7
  refine lv_iconst (v := 0) E.1 E.2.1 dX11_canBe_14 (by decide) ?_
  refine lv_istore (lv' := [(5, .int 0), (4, .int 0), (3, .int v1), (0, .ref (ad 386)), (1, .int x1), (2, .int x2)]) E.1 E.2.1 dX11_canBe_15 hl (by decide) rfl (fun ls hl => ?_)
  have LOOP17 : ∀ n : Nat, ∀ (zz11 : TS) (y9 : Int32) (y10 : Int32) (H : Heap) (locs : List Loc) (ls : Array Slot), mG D A s H locs (wd K ad zz11) → Ok zz11 → KM z zz11 → iv 0 10 y9 → 10 < y9.toInt + (n : Int) → lv_has ls 6 [(5, .int y9), (4, .int y10), (3, .int v1), (0, .ref (ad 386)), (1, .int x1), (2, .int x2)] → W p l e R s m args below meth c H locs 0 0 Q (F0 m 17 ls []) := by
    intro n
    induction n with
    | zero =>
      intro zz11 y9 y10 H locs ls G oo12 kk13 b15 m14 hl
      exact absurd m14 (by have := b15.1; have := b15.2; omega)
    | succ n ih17 =>
      intro zz11 y9 y10 H locs ls G oo12 kk13 b15 m14 hl
      refine lv_iload E.1 E.2.1 dX11_canBe_17 (lv_at hl 0 rfl) ?_
      refine lv_iload_n E.1 E.2.1 dX11_canBe_19 rfl (lv_at hl 5 rfl) ?_
      refine lv_icmp_gt (tgt := 59) E.1 E.2.1 dX11_canBe_20 (by decide) (fun c16 => ?_) (fun c16 => ?_)
      · skip
        have b17 : iv 1 10 y9 := lt_r c16 bx2 b15 (by decide)
        refine lv_aload_n E.1 E.2.1 dX11_canBe_59 rfl (lv_at hl 3 rfl) ?_
        refine t_get E G 11 20 (rfl : ro 386 = 11) (C := RX11) (T := TX11) (N := 37) rfl (by decide) (by decide) (by decide) mw_fl_11_39 (v := .ref (ad 396)) (fvl_o (n := 10) rfl) dX11_canBe_60 ?_
        refine lv_iload_n E.1 E.2.1 dX11_canBe_63 rfl (lv_at hl 4 rfl) ?_
        refine lv_iload_n E.1 E.2.1 dX11_canBe_64 rfl (lv_at hl 2 rfl) ?_
        refine t_iast E G 54 (rfl : ro 396 = 54) (by decide) (by decide) rfl (n := 127) rfl (iv_vp bx1 (by decide) (by decide)) dX11_canBe_65 (fun H locs G => ?_)
        obtain ⟨zz18, G, oo19, kk20⟩ : ∃ u : TS, mG D A s H locs (wd K ad u) ∧ Ok u ∧ KM z u := ⟨_, G, ok_u oo12 54 (rfl : ro 396 = 54) (wr1 79 2 0 4 (iv_full v1) bw (ew.trans (by omega)) (by decide +kernel)) (by decide), KF.tr kk13 (KF_r 54 (rfl : ro 396 = 54) (by decide))⟩
        refine lv_aload_n E.1 E.2.1 dX11_canBe_66 rfl (lv_at hl 3 rfl) ?_
        refine t_vv E G hl (v_laysBack l D K ad zz18 oo19) 11 (rfl : ro 386 = 11) (by decide) rfl rfl 0 rfl mw_code_X11_laysBack mw_ini_11 mw_ml_11_382 mw_inst_X11_laysBack mw_sel_X11_laysBack hd_X11_laysBack ⟨Nat.le_trans (by decide) hfr, Nat.le_trans (by decide) hlo⟩ rfl rfl rfl (Nat.le_of_ble_eq_true rfl) dX11_canBe_67 (fun zz21 H locs hp23 G => ?_)
        obtain ⟨oo24, kk25⟩ := hp23
        have kk26 : KM z zz21 := KF.tr kk20 kk25
        refine lv_iload E.1 E.2.1 dX11_canBe_70 (lv_at hl 1 rfl) ?_
        exact RET G ⟨oo24, kk26⟩ rfl dX11_canBe_72
      · skip
        have b27 : iv 0 9 y9 := le_l (Int32.not_lt.mp c16) b15 bx2 (by decide)
        refine lv_aload_n E.1 E.2.1 dX11_canBe_23 rfl (lv_at hl 3 rfl) ?_
        refine t_get E G 11 20 (rfl : ro 386 = 11) (C := RX11) (T := TX11) (N := 37) rfl (by decide) (by decide) (by decide) mw_fl_11_39 (v := .ref (ad 396)) (fvl_o (n := 10) rfl) dX11_canBe_24 ?_
        refine lv_iload_n E.1 E.2.1 dX11_canBe_27 rfl (lv_at hl 4 rfl) ?_
        refine lv_iload E.1 E.2.1 dX11_canBe_28 (lv_at hl 0 rfl) ?_
        refine t_iast E G 54 (rfl : ro 396 = 54) (by decide) (by decide) rfl (n := 127) rfl (iv_vp bx1 (by decide) (by decide)) dX11_canBe_30 (fun H locs G => ?_)
        obtain ⟨zz28, G, oo29, kk30⟩ : ∃ u : TS, mG D A s H locs (wd K ad u) ∧ Ok u ∧ KM z u := ⟨_, G, ok_u oo12 54 (rfl : ro 396 = 54) (wr1 79 2 0 4 b27 bw (ew.trans (by omega)) (by decide +kernel)) (by decide), KF.tr kk13 (KF_r 54 (rfl : ro 396 = 54) (by decide))⟩
        refine lv_aload_n E.1 E.2.1 dX11_canBe_31 rfl (lv_at hl 3 rfl) ?_
        refine t_vv E G hl (v_begins l D K ad zz28 oo29) 11 (rfl : ro 386 = 11) (by decide) rfl rfl 0 rfl mw_code_X11_begins mw_ini_11 mw_ml_11_264 mw_inst_X11_begins mw_sel_X11_begins hd_X11_begins ⟨Nat.le_trans (by decide) hfr, Nat.le_trans (by decide) hlo⟩ rfl rfl rfl (Nat.le_of_ble_eq_true rfl) dX11_canBe_32 (fun zz31 H locs hp33 G => ?_)
        obtain ⟨oo34, kk35⟩ := hp33
        have kk36 : KM z zz31 := KF.tr kk30 kk35
        refine lv_aload_n E.1 E.2.1 dX11_canBe_35 rfl (lv_at hl 3 rfl) ?_
        refine lv_iconst (v := 0) E.1 E.2.1 dX11_canBe_36 (by decide) ?_
        refine lv_iconst (v := (-1)) E.1 E.2.1 dX11_canBe_37 (by decide) ?_
        refine t_vi E G hl (v_areAllSo l D K ad zz31 oo34 (0 : Int32) (iv_mono (iv_lit (lo := 0) (hi := 0) 0 (by decide) (by decide)) (by decide) (by decide)) (-1 : Int32) (wf_ka wf kk36.2.1 rfl rfl rfl rfl)) 11 (rfl : ro 386 = 11) (by decide) rfl rfl 2 rfl mw_code_X11_areAllSo mw_ini_11 mw_ml_11_434 mw_inst_X11_areAllSo mw_sel_X11_areAllSo hd_X11_areAllSo ⟨Nat.le_trans (by decide) hfr, Nat.le_trans (by decide) hlo⟩ rfl rfl rfl (Nat.le_of_ble_eq_true rfl) dX11_canBe_38 (fun r38 zz37 H locs hp39 G => ?_)
        obtain ⟨oo40, kk41, b42⟩ := hp39
        have kk43 : KM z zz37 := KF.tr kk36 kk41
        refine lv_if_eq (tgt := 53) E.1 E.2.1 dX11_canBe_41 (by decide) (fun c44 => ?_) (fun c44 => ?_)
        · skip
          have b45 : iv 0 0 r38 := iv_eq c44 (iv_lit (lo := 0) (hi := 0) 0 (by decide) (by decide))
          obtain ⟨v46, e47⟩ : ∃ w : Int32, w = y9 + (1 : Int32) := ⟨_, rfl⟩
          refine lv_iinc (v := v46) (lv' := [(5, .int v46), (4, .int y10), (3, .int v1), (0, .ref (ad 386)), (1, .int x1), (2, .int x2)]) E.1 E.2.1 dX11_canBe_53 hl (k := 0) rfl (by rw [e47]; rfl) (by decide) rfl (fun ls hl => ?_)
          have b48 : iv 1 10 v46 := by rw [e47]; exact iv_add b27 (iv_lit (lo := 1) (hi := 1) 1 (by decide) (by decide)) (by decide) (by decide) (by decide) (by decide)
          have t49 : v46.toInt = y9.toInt + 1 := by rw [e47]; exact ti_addc 1 (by decide) b27 (by decide) (by decide)
          refine lv_goto (tgt := 17) E.1 E.2.1 dX11_canBe_56 (by decide) ?_
          exact ih17 zz37 v46 y10 H locs ls G oo40 kk43 (iv_mono b48 (by decide) (by decide)) (by have := t49; have := m14; omega) (lv_sub hl [0, 1, 2, 3, 4, 5] rfl)
        · skip
          have b50 : iv 1 1 r38 := ne_lo c44 b42 (by decide) (by decide)
          refine lv_iload E.1 E.2.1 dX11_canBe_44 (lv_at hl 1 rfl) ?_
          refine lv_iconst (v := 1) E.1 E.2.1 dX11_canBe_46 (by decide) ?_
          refine lv_iload E.1 E.2.1 dX11_canBe_47 (lv_at hl 0 rfl) ?_
          refine lv_ishl E.1 E.2.1 dX11_canBe_49 ?_
          refine lv_topi (fun v51 e52 => ?_)
          refine lv_ior E.1 E.2.1 dX11_canBe_50 ?_
          refine lv_topi (fun v53 e54 => ?_)
          refine lv_istore (lv' := [(4, .int v53), (5, .int y9), (3, .int v1), (0, .ref (ad 386)), (1, .int x1), (2, .int x2)]) E.1 E.2.1 dX11_canBe_51 hl (by decide) rfl (fun ls hl => ?_)
          obtain ⟨v55, e56⟩ : ∃ w : Int32, w = y9 + (1 : Int32) := ⟨_, rfl⟩
          refine lv_iinc (v := v55) (lv' := [(5, .int v55), (4, .int v53), (3, .int v1), (0, .ref (ad 386)), (1, .int x1), (2, .int x2)]) E.1 E.2.1 dX11_canBe_53 hl (k := 1) rfl (by rw [e56]; rfl) (by decide) rfl (fun ls hl => ?_)
          have b57 : iv 1 10 v55 := by rw [e56]; exact iv_add b27 (iv_lit (lo := 1) (hi := 1) 1 (by decide) (by decide)) (by decide) (by decide) (by decide) (by decide)
          have t58 : v55.toInt = y9.toInt + 1 := by rw [e56]; exact ti_addc 1 (by decide) b27 (by decide) (by decide)
          refine lv_goto (tgt := 17) E.1 E.2.1 dX11_canBe_56 (by decide) ?_
          exact ih17 zz37 v55 v53 H locs ls G oo40 kk43 (iv_mono b57 (by decide) (by decide)) (by have := t58; have := m14; omega) (lv_sub hl [0, 1, 2, 3, 4, 5] rfl)
  exact LOOP17 11 zz3 0 0 H locs ls G oo6 kk8 (iv_mono (iv_lit (lo := 0) (hi := 0) 0 (by decide) (by decide)) (by decide) (by decide)) (by have := (iv_lit (lo := 0) (hi := 0) 0 (by decide) (by decide)).1; omega) (lv_sub hl [0, 1, 2, 3, 4, 5] rfl)
