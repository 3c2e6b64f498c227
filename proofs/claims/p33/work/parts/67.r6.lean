theorem mw_cL_11_365 : (Cond.constantLong RX11 365 (7) : Cond) ∈ cw := cw_of (List.mem_append_right _ (List.mem_append_right _ (List.mem_append_right _ (List.mem_append_right _ (List.mem_append_right _ (List.mem_append_right _ (List.mem_append_right _ (List.mem_append_left _ (List.mem_of_getElem? (i := 60) (by decide +kernel)))))))))) (by decide +kernel)
theorem mw_cL_11_367 : (Cond.constantLong RX11 367 (9) : Cond) ∈ cw := cw_of (List.mem_append_right _ (List.mem_append_right _ (List.mem_append_right _ (List.mem_append_right _ (List.mem_append_right _ (List.mem_append_right _ (List.mem_append_right _ (List.mem_append_left _ (List.mem_of_getElem? (i := 65) (by decide +kernel)))))))))) (by decide +kernel)
theorem mw_code_X11_in : (Cond.code yX11_in cX11_in 6 (some .boolean) : Cond) ∈ cw := cw_of (List.mem_append_right _ (List.mem_append_right _ (List.mem_append_right _ (List.mem_append_right _ (List.mem_append_right _ (List.mem_append_right _ (List.mem_append_left _ (List.mem_of_getElem? (i := 55) rfl)))))))) (by decide +kernel)
theorem mw_code_X11_keepsAct : (Cond.code yX11_keepsAct cX11_keepsAct 2 none : Cond) ∈ cw := cw_of (List.mem_append_right _ (List.mem_append_right _ (List.mem_append_right _ (List.mem_append_right _ (List.mem_append_right _ (List.mem_append_right _ (List.mem_append_left _ (List.mem_of_getElem? (i := 221) rfl)))))))) (by decide +kernel)
theorem mw_inst_X11_keepsAct : (Cond.instanceMethod yX11_keepsAct : Cond) ∈ cw := cw_of (List.mem_append_right _ (List.mem_append_right _ (List.mem_append_right _ (List.mem_append_right _ (List.mem_append_right _ (List.mem_append_right _ (List.mem_append_left _ (List.mem_of_getElem? (i := 220) (by decide +kernel))))))))) (by decide +kernel)
theorem mw_ml_11_121 : (Cond.methodLink RX11 121 yX11_in : Cond) ∈ cw := cw_of (List.mem_append_right _ (List.mem_append_right _ (List.mem_append_right _ (List.mem_append_right _ (List.mem_append_right _ (List.mem_append_right _ (List.mem_append_left _ (List.mem_of_getElem? (i := 53) (by decide +kernel))))))))) (by decide +kernel)
theorem mw_ml_11_362 : (Cond.methodLink RX11 362 yX11_keepsAct : Cond) ∈ cw := cw_of (List.mem_append_right _ (List.mem_append_right _ (List.mem_append_right _ (List.mem_append_right _ (List.mem_append_right _ (List.mem_append_right _ (List.mem_append_left _ (List.mem_of_getElem? (i := 218) (by decide +kernel))))))))) (by decide +kernel)
theorem mw_sel_X11_keepsAct : (Cond.selects RX11 yX11_keepsAct yX11_keepsAct : Cond) ∈ cw := cw_of (List.mem_append_left _ (List.mem_of_getElem? (i := 90) (by decide +kernel))) (by decide +kernel)
theorem mw_stat_X11_in : (Cond.static yX11_in : Cond) ∈ cw := cw_of (List.mem_append_right _ (List.mem_append_right _ (List.mem_append_right _ (List.mem_append_right _ (List.mem_append_right _ (List.mem_append_right _ (List.mem_append_left _ (List.mem_of_getElem? (i := 54) (by decide +kernel))))))))) (by decide +kernel)
theorem dX11_bait_0 : decode cX11_bait 0 = .ok (.aload_n 0, 1) := by decide +kernel
theorem dX11_bait_1 : decode cX11_bait 1 = .ok (.iload_n 1, 1) := by decide +kernel
theorem dX11_bait_2 : decode cX11_bait 2 = .ok (.invokevirtual 285, 3) := by decide +kernel
theorem dX11_bait_5 : decode cX11_bait 5 = .ok (.ifCond .eq 24, 3) := by decide +kernel
theorem dX11_bait_8 : decode cX11_bait 8 = .ok (.iload_n 2, 1) := by decide +kernel
theorem dX11_bait_9 : decode cX11_bait 9 = .ok (.i2l, 1) := by decide +kernel
theorem dX11_bait_10 : decode cX11_bait 10 = .ok (.lconst 0, 1) := by decide +kernel
theorem dX11_bait_11 : decode cX11_bait 11 = .ok (.ldc2_w 365, 3) := by decide +kernel
theorem dX11_bait_14 : decode cX11_bait 14 = .ok (.invokestatic 121, 3) := by decide +kernel
theorem dX11_bait_17 : decode cX11_bait 17 = .ok (.ifCond .eq 12, 3) := by decide +kernel
theorem dX11_bait_20 : decode cX11_bait 20 = .ok (.aload_n 0, 1) := by decide +kernel
theorem dX11_bait_21 : decode cX11_bait 21 = .ok (.iload_n 1, 1) := by decide +kernel
theorem dX11_bait_22 : decode cX11_bait 22 = .ok (.invokevirtual 314, 3) := by decide +kernel
theorem dX11_bait_25 : decode cX11_bait 25 = .ok (.iload_n 2, 1) := by decide +kernel
theorem dX11_bait_26 : decode cX11_bait 26 = .ok (.if_icmp .ne 5, 3) := by decide +kernel
theorem dX11_bait_29 : decode cX11_bait 29 = .ok (.iconst (-1), 1) := by decide +kernel
theorem dX11_bait_30 : decode cX11_bait 30 = .ok (.ireturn, 1) := by decide +kernel
theorem dX11_bait_31 : decode cX11_bait 31 = .ok (.aload_n 0, 1) := by decide +kernel
theorem dX11_bait_32 : decode cX11_bait 32 = .ok (.invokevirtual 362, 3) := by decide +kernel
theorem dX11_bait_35 : decode cX11_bait 35 = .ok (.aload_n 0, 1) := by decide +kernel
theorem dX11_bait_36 : decode cX11_bait 36 = .ok (.iload_n 1, 1) := by decide +kernel
theorem dX11_bait_37 : decode cX11_bait 37 = .ok (.invokevirtual 314, 3) := by decide +kernel
theorem dX11_bait_40 : decode cX11_bait 40 = .ok (.istore_n 3, 1) := by decide +kernel
theorem dX11_bait_41 : decode cX11_bait 41 = .ok (.aload_n 0, 1) := by decide +kernel
theorem dX11_bait_42 : decode cX11_bait 42 = .ok (.getfield 39, 3) := by decide +kernel
theorem dX11_bait_45 : decode cX11_bait 45 = .ok (.bipush 11, 2) := by decide +kernel
theorem dX11_bait_47 : decode cX11_bait 47 = .ok (.iconst 3, 1) := by decide +kernel
theorem dX11_bait_48 : decode cX11_bait 48 = .ok (.iload_n 1, 1) := by decide +kernel
theorem dX11_bait_49 : decode cX11_bait 49 = .ok (.imul, 1) := by decide +kernel
theorem dX11_bait_50 : decode cX11_bait 50 = .ok (.iadd, 1) := by decide +kernel
theorem dX11_bait_51 : decode cX11_bait 51 = .ok (.iconst 1, 1) := by decide +kernel
theorem dX11_bait_52 : decode cX11_bait 52 = .ok (.iadd, 1) := by decide +kernel
theorem dX11_bait_53 : decode cX11_bait 53 = .ok (.iload_n 2, 1) := by decide +kernel
theorem dX11_bait_54 : decode cX11_bait 54 = .ok (.iastore, 1) := by decide +kernel
theorem dX11_bait_55 : decode cX11_bait 55 = .ok (.iload_n 3, 1) := by decide +kernel
theorem dX11_bait_56 : decode cX11_bait 56 = .ok (.ireturn, 1) := by decide +kernel
theorem dX11_calm_0 : decode cX11_calm 0 = .ok (.aload_n 0, 1) := by decide +kernel
theorem dX11_calm_1 : decode cX11_calm 1 = .ok (.iload_n 1, 1) := by decide +kernel
theorem dX11_calm_2 : decode cX11_calm 2 = .ok (.invokevirtual 317, 3) := by decide +kernel
theorem dX11_calm_5 : decode cX11_calm 5 = .ok (.ifCond .eq 24, 3) := by decide +kernel
theorem dX11_calm_8 : decode cX11_calm 8 = .ok (.iload_n 2, 1) := by decide +kernel
theorem dX11_calm_9 : decode cX11_calm 9 = .ok (.i2l, 1) := by decide +kernel
theorem dX11_calm_10 : decode cX11_calm 10 = .ok (.lconst 0, 1) := by decide +kernel
theorem dX11_calm_11 : decode cX11_calm 11 = .ok (.ldc2_w 367, 3) := by decide +kernel
theorem dX11_calm_14 : decode cX11_calm 14 = .ok (.invokestatic 121, 3) := by decide +kernel
theorem dX11_calm_17 : decode cX11_calm 17 = .ok (.ifCond .eq 12, 3) := by decide +kernel
theorem dX11_calm_20 : decode cX11_calm 20 = .ok (.aload_n 0, 1) := by decide +kernel
theorem dX11_calm_21 : decode cX11_calm 21 = .ok (.iload_n 1, 1) := by decide +kernel
theorem dX11_calm_22 : decode cX11_calm 22 = .ok (.invokevirtual 320, 3) := by decide +kernel
theorem dX11_calm_25 : decode cX11_calm 25 = .ok (.iload_n 2, 1) := by decide +kernel
theorem dX11_calm_26 : decode cX11_calm 26 = .ok (.if_icmp .ne 5, 3) := by decide +kernel
theorem dX11_calm_29 : decode cX11_calm 29 = .ok (.iconst (-1), 1) := by decide +kernel
theorem dX11_calm_30 : decode cX11_calm 30 = .ok (.ireturn, 1) := by decide +kernel
theorem dX11_calm_31 : decode cX11_calm 31 = .ok (.aload_n 0, 1) := by decide +kernel
theorem dX11_calm_32 : decode cX11_calm 32 = .ok (.invokevirtual 362, 3) := by decide +kernel
theorem dX11_calm_35 : decode cX11_calm 35 = .ok (.aload_n 0, 1) := by decide +kernel
theorem dX11_calm_36 : decode cX11_calm 36 = .ok (.iload_n 1, 1) := by decide +kernel
theorem dX11_calm_37 : decode cX11_calm 37 = .ok (.invokevirtual 320, 3) := by decide +kernel
theorem dX11_calm_40 : decode cX11_calm 40 = .ok (.istore_n 3, 1) := by decide +kernel
theorem dX11_calm_41 : decode cX11_calm 41 = .ok (.aload_n 0, 1) := by decide +kernel
theorem dX11_calm_42 : decode cX11_calm 42 = .ok (.getfield 39, 3) := by decide +kernel
theorem dX11_calm_45 : decode cX11_calm 45 = .ok (.bipush 29, 2) := by decide +kernel
theorem dX11_calm_47 : decode cX11_calm 47 = .ok (.iconst 3, 1) := by decide +kernel
theorem dX11_calm_48 : decode cX11_calm 48 = .ok (.iload_n 1, 1) := by decide +kernel
theorem dX11_calm_49 : decode cX11_calm 49 = .ok (.imul, 1) := by decide +kernel
theorem dX11_calm_50 : decode cX11_calm 50 = .ok (.iadd, 1) := by decide +kernel
theorem dX11_calm_51 : decode cX11_calm 51 = .ok (.iconst 1, 1) := by decide +kernel
theorem dX11_calm_52 : decode cX11_calm 52 = .ok (.iadd, 1) := by decide +kernel
theorem dX11_calm_53 : decode cX11_calm 53 = .ok (.iload_n 2, 1) := by decide +kernel
theorem dX11_calm_54 : decode cX11_calm 54 = .ok (.iastore, 1) := by decide +kernel
theorem dX11_calm_55 : decode cX11_calm 55 = .ok (.iload_n 3, 1) := by decide +kernel
theorem dX11_calm_56 : decode cX11_calm 56 = .ok (.ireturn, 1) := by decide +kernel
theorem dX11_move_0 : decode cX11_move 0 = .ok (.aload_n 0, 1) := by decide +kernel
theorem dX11_move_1 : decode cX11_move 1 = .ok (.iload_n 1, 1) := by decide +kernel
theorem dX11_move_2 : decode cX11_move 2 = .ok (.invokevirtual 288, 3) := by decide +kernel
theorem dX11_move_5 : decode cX11_move 5 = .ok (.ifCond .eq 20, 3) := by decide +kernel
theorem dX11_move_8 : decode cX11_move 8 = .ok (.aload_n 0, 1) := by decide +kernel
theorem dX11_move_9 : decode cX11_move 9 = .ok (.iload_n 2, 1) := by decide +kernel
theorem dX11_move_10 : decode cX11_move 10 = .ok (.invokevirtual 323, 3) := by decide +kernel
theorem dX11_move_13 : decode cX11_move 13 = .ok (.ifCond .eq 12, 3) := by decide +kernel
theorem dX11_move_16 : decode cX11_move 16 = .ok (.aload_n 0, 1) := by decide +kernel
theorem dX11_move_17 : decode cX11_move 17 = .ok (.iload_n 1, 1) := by decide +kernel
theorem dX11_move_18 : decode cX11_move 18 = .ok (.invokevirtual 311, 3) := by decide +kernel
theorem dX11_move_21 : decode cX11_move 21 = .ok (.iload_n 2, 1) := by decide +kernel
theorem dX11_move_22 : decode cX11_move 22 = .ok (.if_icmp .ne 5, 3) := by decide +kernel
theorem dX11_move_25 : decode cX11_move 25 = .ok (.iconst (-1), 1) := by decide +kernel
theorem dX11_move_26 : decode cX11_move 26 = .ok (.ireturn, 1) := by decide +kernel
theorem dX11_move_27 : decode cX11_move 27 = .ok (.aload_n 0, 1) := by decide +kernel
theorem dX11_move_28 : decode cX11_move 28 = .ok (.invokevirtual 362, 3) := by decide +kernel
theorem dX11_move_31 : decode cX11_move 31 = .ok (.aload_n 0, 1) := by decide +kernel
theorem dX11_move_32 : decode cX11_move 32 = .ok (.iload_n 1, 1) := by decide +kernel
theorem dX11_move_33 : decode cX11_move 33 = .ok (.invokevirtual 311, 3) := by decide +kernel
theorem dX11_move_36 : decode cX11_move 36 = .ok (.istore_n 3, 1) := by decide +kernel
theorem dX11_move_37 : decode cX11_move 37 = .ok (.aload_n 0, 1) := by decide +kernel
theorem dX11_move_38 : decode cX11_move 38 = .ok (.getfield 39, 3) := by decide +kernel
theorem dX11_move_41 : decode cX11_move 41 = .ok (.bipush 11, 2) := by decide +kernel
theorem dX11_move_43 : decode cX11_move 43 = .ok (.iconst 3, 1) := by decide +kernel
theorem dX11_move_44 : decode cX11_move 44 = .ok (.iload_n 1, 1) := by decide +kernel
theorem dX11_move_45 : decode cX11_move 45 = .ok (.imul, 1) := by decide +kernel
theorem dX11_move_46 : decode cX11_move 46 = .ok (.iadd, 1) := by decide +kernel
theorem dX11_move_47 : decode cX11_move 47 = .ok (.iload_n 2, 1) := by decide +kernel
theorem dX11_move_48 : decode cX11_move 48 = .ok (.iastore, 1) := by decide +kernel
theorem dX11_move_49 : decode cX11_move 49 = .ok (.iload_n 3, 1) := by decide +kernel
theorem dX11_move_50 : decode cX11_move 50 = .ok (.ireturn, 1) := by decide +kernel
theorem dX11_set_0 : decode cX11_set 0 = .ok (.aload_n 0, 1) := by decide +kernel
theorem dX11_set_1 : decode cX11_set 1 = .ok (.iload_n 1, 1) := by decide +kernel
theorem dX11_set_2 : decode cX11_set 2 = .ok (.invokevirtual 285, 3) := by decide +kernel
theorem dX11_set_5 : decode cX11_set 5 = .ok (.ifCond .eq 19, 3) := by decide +kernel
theorem dX11_set_8 : decode cX11_set 8 = .ok (.aload_n 0, 1) := by decide +kernel
theorem dX11_set_9 : decode cX11_set 9 = .ok (.iload_n 1, 1) := by decide +kernel
theorem dX11_set_10 : decode cX11_set 10 = .ok (.invokevirtual 288, 3) := by decide +kernel
theorem dX11_set_13 : decode cX11_set 13 = .ok (.ifCond .ne 11, 3) := by decide +kernel
theorem dX11_set_16 : decode cX11_set 16 = .ok (.aload_n 0, 1) := by decide +kernel
theorem dX11_set_17 : decode cX11_set 17 = .ok (.iload_n 2, 1) := by decide +kernel
theorem dX11_set_18 : decode cX11_set 18 = .ok (.invokevirtual 323, 3) := by decide +kernel
theorem dX11_set_21 : decode cX11_set 21 = .ok (.ifCond .ne 5, 3) := by decide +kernel
theorem dX11_set_24 : decode cX11_set 24 = .ok (.iconst (-1), 1) := by decide +kernel
theorem dX11_set_25 : decode cX11_set 25 = .ok (.ireturn, 1) := by decide +kernel
theorem dX11_set_26 : decode cX11_set 26 = .ok (.aload_n 0, 1) := by decide +kernel
theorem dX11_set_27 : decode cX11_set 27 = .ok (.invokevirtual 362, 3) := by decide +kernel
theorem dX11_set_30 : decode cX11_set 30 = .ok (.aload_n 0, 1) := by decide +kernel
theorem dX11_set_31 : decode cX11_set 31 = .ok (.iload_n 1, 1) := by decide +kernel
theorem dX11_set_32 : decode cX11_set 32 = .ok (.invokevirtual 311, 3) := by decide +kernel
theorem dX11_set_35 : decode cX11_set 35 = .ok (.istore_n 3, 1) := by decide +kernel
theorem dX11_set_36 : decode cX11_set 36 = .ok (.aload_n 0, 1) := by decide +kernel
theorem dX11_set_37 : decode cX11_set 37 = .ok (.getfield 39, 3) := by decide +kernel
theorem dX11_set_40 : decode cX11_set 40 = .ok (.bipush 11, 2) := by decide +kernel
theorem dX11_set_42 : decode cX11_set 42 = .ok (.iconst 3, 1) := by decide +kernel
theorem dX11_set_43 : decode cX11_set 43 = .ok (.iload_n 1, 1) := by decide +kernel
theorem dX11_set_44 : decode cX11_set 44 = .ok (.imul, 1) := by decide +kernel
theorem dX11_set_45 : decode cX11_set 45 = .ok (.iadd, 1) := by decide +kernel
theorem dX11_set_46 : decode cX11_set 46 = .ok (.iload_n 2, 1) := by decide +kernel
theorem dX11_set_47 : decode cX11_set 47 = .ok (.iastore, 1) := by decide +kernel
theorem dX11_set_48 : decode cX11_set 48 = .ok (.aload_n 0, 1) := by decide +kernel
theorem dX11_set_49 : decode cX11_set 49 = .ok (.getfield 39, 3) := by decide +kernel
theorem dX11_set_52 : decode cX11_set 52 = .ok (.bipush 11, 2) := by decide +kernel
theorem dX11_set_54 : decode cX11_set 54 = .ok (.iconst 3, 1) := by decide +kernel
theorem dX11_set_55 : decode cX11_set 55 = .ok (.iload_n 1, 1) := by decide +kernel
theorem dX11_set_56 : decode cX11_set 56 = .ok (.imul, 1) := by decide +kernel
theorem dX11_set_57 : decode cX11_set 57 = .ok (.iadd, 1) := by decide +kernel
theorem dX11_set_58 : decode cX11_set 58 = .ok (.iconst 2, 1) := by decide +kernel
theorem dX11_set_59 : decode cX11_set 59 = .ok (.iadd, 1) := by decide +kernel
theorem dX11_set_60 : decode cX11_set 60 = .ok (.iconst 1, 1) := by decide +kernel
theorem dX11_set_61 : decode cX11_set 61 = .ok (.iastore, 1) := by decide +kernel
theorem dX11_set_62 : decode cX11_set 62 = .ok (.iload_n 3, 1) := by decide +kernel
theorem dX11_set_63 : decode cX11_set 63 = .ok (.ireturn, 1) := by decide +kernel
theorem hd_X11_in : yX11_in.cls ≠ "java/lang/invoke/MethodHandle" ∧ yX11_in.cls ≠ "java/lang/invoke/VarHandle" ∧ (parseMethodDescriptor yX11_in.desc).map (fun d => d.parameters.length) = some 3 := ⟨by decide +kernel, by decide +kernel, by decide +kernel⟩
theorem hd_X11_keepsAct : yX11_keepsAct.cls ≠ "java/lang/invoke/MethodHandle" ∧ yX11_keepsAct.cls ≠ "java/lang/invoke/VarHandle" ∧ (parseMethodDescriptor yX11_keepsAct.desc).map (fun d => d.parameters.length) = some 0 := ⟨by decide +kernel, by decide +kernel, by decide +kernel⟩
set_option maxHeartbeats 4000000 in
set_option maxRecDepth 100000 in
theorem v_set (l : Launch) (D : va_G) (K : Nat → ClassId) (ad : Nat → Nat) (z : TS) (o : Ok z) (x1 : Int32) (x2 : Int32) : cI l yX11_set cX11_set 4 .int ({ frames := 2, cells := 0, slots := 0, locals := 42 }) D K ad z [.ref (ad 386), .int x1, .int x2] (fun r u => Ok u ∧ KM z u) := by
  refine t_enterI (by decide) (Nat.le_of_ble_eq_true rfl) rfl rfl ?_
  intro p e s m args below meth c A R Q H locs ls E hfr hlo RET G hl
  have E : mE p s m meth c cX11_set args 4 RX11 D K A := E
  have hl : lv_has ls 4 [(0, .ref (ad 386)), (1, .int x1), (2, .int x2)] := hl
  refine lv_aload_n E.1 E.2.1 dX11_set_0 rfl (lv_at hl 0 rfl) ?_
  refine lv_iload_n E.1 E.2.1 dX11_set_1 rfl (lv_at hl 1 rfl) ?_
  refine t_vi E G hl (v_isLure l D K ad z o x1) 11 (rfl : ro 386 = 11) (by decide) rfl rfl 1 rfl mw_code_X11_isLure mw_ini_11 mw_ml_11_285 mw_inst_X11_isLure mw_sel_X11_isLure hd_X11_isLure ⟨Nat.le_trans (by decide) hfr, Nat.le_trans (by decide) hlo⟩ rfl rfl rfl (Nat.le_of_ble_eq_true rfl) dX11_set_2 (fun r2 zz1 H locs hp3 G => ?_)
  obtain ⟨hz6, b4, h5⟩ := hp3
  rw [hz6] at G
  refine lv_if_eq (tgt := 24) E.1 E.2.1 dX11_set_5 (by decide) (fun c7 => ?_) (fun c7 => ?_)
  · skip
    have b8 : iv 0 0 r2 := iv_eq c7 (iv_lit (lo := 0) (hi := 0) 0 (by decide) (by decide))
    refine lv_iconst (v := (-1)) E.1 E.2.1 dX11_set_24 (by decide) ?_
    exact RET G ⟨o, KF.rf⟩ rfl dX11_set_25
  · skip
    have b9 : iv 1 1 r2 := ne_lo c7 b4 (by decide) (by decide)
    have b10 : iv 0 5 x1 := h5 c7
    refine lv_aload_n E.1 E.2.1 dX11_set_8 rfl (lv_at hl 0 rfl) ?_
    refine lv_iload_n E.1 E.2.1 dX11_set_9 rfl (lv_at hl 1 rfl) ?_
    refine t_vi E G hl (v_isLaid l D K ad z o x1) 11 (rfl : ro 386 = 11) (by decide) rfl rfl 1 rfl mw_code_X11_isLaid mw_ini_11 mw_ml_11_288 mw_inst_X11_isLaid mw_sel_X11_isLaid hd_X11_isLaid ⟨Nat.le_trans (by decide) hfr, Nat.le_trans (by decide) hlo⟩ rfl rfl rfl (Nat.le_of_ble_eq_true rfl) dX11_set_10 (fun r12 zz11 H locs hp13 G => ?_)
    obtain ⟨hz16, b14, h15⟩ := hp13
    rw [hz16] at G
    refine lv_if_ne (tgt := 24) E.1 E.2.1 dX11_set_13 (by decide) (fun c17 => ?_) (fun c17 => ?_)
    · skip
      have b18 : iv 1 1 r12 := ne_lo c17 b14 (by decide) (by decide)
      refine lv_iconst (v := (-1)) E.1 E.2.1 dX11_set_24 (by decide) ?_
      exact RET G ⟨o, KF.rf⟩ rfl dX11_set_25
    · skip
      have b19 : iv 0 0 r12 := iv_eq c17 (iv_lit (lo := 0) (hi := 0) 0 (by decide) (by decide))
      refine lv_aload_n E.1 E.2.1 dX11_set_16 rfl (lv_at hl 0 rfl) ?_
      refine lv_iload_n E.1 E.2.1 dX11_set_17 rfl (lv_at hl 2 rfl) ?_
      refine t_vi E G hl (v_isCorner l D K ad z o x2) 11 (rfl : ro 386 = 11) (by decide) rfl rfl 1 rfl mw_code_X11_isCorner mw_ini_11 mw_ml_11_323 mw_inst_X11_isCorner mw_sel_X11_isCorner hd_X11_isCorner ⟨Nat.le_trans (by decide) hfr, Nat.le_trans (by decide) hlo⟩ rfl rfl rfl (Nat.le_of_ble_eq_true rfl) dX11_set_18 (fun r21 zz20 H locs hp22 G => ?_)
      obtain ⟨hz25, b23, h24⟩ := hp22
      rw [hz25] at G
      refine lv_if_ne (tgt := 26) E.1 E.2.1 dX11_set_21 (by decide) (fun c26 => ?_) (fun c26 => ?_)
      · skip
        have b27 : iv 1 1 r21 := ne_lo c26 b23 (by decide) (by decide)
        have b28 : iv 0 7 x2 := h24 c26
        refine lv_aload_n E.1 E.2.1 dX11_set_26 rfl (lv_at hl 0 rfl) ?_
        refine t_vv E G hl (v_keepsAct l D K ad z o) 11 (rfl : ro 386 = 11) (by decide) rfl rfl 0 rfl mw_code_X11_keepsAct mw_ini_11 mw_ml_11_362 mw_inst_X11_keepsAct mw_sel_X11_keepsAct hd_X11_keepsAct ⟨Nat.le_trans (by decide) hfr, Nat.le_trans (by decide) hlo⟩ rfl rfl rfl (Nat.le_of_ble_eq_true rfl) dX11_set_27 (fun zz29 H locs hp31 G => ?_)
        obtain ⟨oo32, kk33⟩ := hp31
        have kk34 : KM z zz29 := KF.tr KF.rf kk33
        refine lv_aload_n E.1 E.2.1 dX11_set_30 rfl (lv_at hl 0 rfl) ?_
        refine lv_iload_n E.1 E.2.1 dX11_set_31 rfl (lv_at hl 1 rfl) ?_
        refine t_vi E G hl (v_lureAt l D K ad zz29 oo32 x1 (iv_mono b10 (by decide) (by decide))) 11 (rfl : ro 386 = 11) (by decide) rfl rfl 1 rfl mw_code_X11_lureAt mw_ini_11 mw_ml_11_311 mw_inst_X11_lureAt mw_sel_X11_lureAt hd_X11_lureAt ⟨Nat.le_trans (by decide) hfr, Nat.le_trans (by decide) hlo⟩ rfl rfl rfl (Nat.le_of_ble_eq_true rfl) dX11_set_32 (fun r36 zz35 H locs hp37 G => ?_)
        have hz38 := hp37
        rw [hz38] at G
        refine lv_istore_n (lv' := [(3, .int r36), (0, .ref (ad 386)), (1, .int x1), (2, .int x2)]) E.1 E.2.1 dX11_set_35 rfl hl (by decide) rfl (fun ls hl => ?_)
        refine lv_aload_n E.1 E.2.1 dX11_set_36 rfl (lv_at hl 1 rfl) ?_
        refine t_get E G 11 20 (rfl : ro 386 = 11) (C := RX11) (T := TX11) (N := 37) rfl (by decide) (by decide) (by decide) mw_fl_11_39 (v := .ref (ad 396)) (fvl_o (n := 10) rfl) dX11_set_37 ?_
        refine lv_bipush (v := 11) E.1 E.2.1 dX11_set_40 (by decide) ?_
        refine lv_iconst (v := 3) E.1 E.2.1 dX11_set_42 (by decide) ?_
        refine lv_iload_n E.1 E.2.1 dX11_set_43 rfl (lv_at hl 2 rfl) ?_
        refine lv_imul E.1 E.2.1 dX11_set_44 ?_
        refine lv_topi (fun v39 e40 => ?_)
        have b41 : iv 0 15 v39 := by rw [e40]; exact iv_mulc' b10 3 (by decide) (by decide) (by decide) (by decide) (by decide) (by decide)
        have l42 : v39.toInt = 0 + 3 * x1.toInt := (show v39.toInt = 3 * x1.toInt by rw [e40]; exact ti_cmul 3 (by decide) (by decide) b10 (by decide) (by decide)).trans (by omega)
        refine lv_iadd E.1 E.2.1 dX11_set_45 ?_
        refine lv_topi (fun v43 e44 => ?_)
        have b45 : iv 11 26 v43 := by rw [e44]; exact iv_add (iv_lit (lo := 11) (hi := 11) 11 (by decide) (by decide)) b41 (by decide) (by decide) (by decide) (by decide)
        have l46 : v43.toInt = 11 + 3 * x1.toInt := (show v43.toInt = 11 + v39.toInt by rw [e44]; exact ti_cadd 11 (by decide) b41 (by decide) (by decide)).trans (by omega)
        refine lv_iload_n E.1 E.2.1 dX11_set_46 rfl (lv_at hl 3 rfl) ?_
        refine t_iast E G 54 (rfl : ro 396 = 54) (by decide) (by decide) rfl (n := 127) rfl (iv_vp b45 (by decide) (by decide)) dX11_set_47 (fun H locs G => ?_)
        obtain ⟨zz47, G, oo48, kk49⟩ : ∃ u : TS, mG D A s H locs (wd K ad u) ∧ Ok u ∧ KM z u := ⟨_, G, ok_u oo32 54 (rfl : ro 396 = 54) (wr1 11 3 0 5 b28 b10 (l46.trans (by omega)) (by decide +kernel)) (by decide), KF.tr kk34 (KF_r 54 (rfl : ro 396 = 54) (by decide))⟩
        refine lv_aload_n E.1 E.2.1 dX11_set_48 rfl (lv_at hl 1 rfl) ?_
        refine t_get E G 11 20 (rfl : ro 386 = 11) (C := RX11) (T := TX11) (N := 37) rfl (by decide) (by decide) (by decide) mw_fl_11_39 (v := .ref (ad 396)) (fvl_o (n := 10) rfl) dX11_set_49 ?_
        refine lv_bipush (v := 11) E.1 E.2.1 dX11_set_52 (by decide) ?_
        refine lv_iconst (v := 3) E.1 E.2.1 dX11_set_54 (by decide) ?_
        refine lv_iload_n E.1 E.2.1 dX11_set_55 rfl (lv_at hl 2 rfl) ?_
        refine lv_imul E.1 E.2.1 dX11_set_56 ?_
        refine lv_topi (fun v50 e51 => ?_)
        have b52 : iv 0 15 v50 := by rw [e51]; exact iv_mulc' b10 3 (by decide) (by decide) (by decide) (by decide) (by decide) (by decide)
        have l53 : v50.toInt = 0 + 3 * x1.toInt := (show v50.toInt = 3 * x1.toInt by rw [e51]; exact ti_cmul 3 (by decide) (by decide) b10 (by decide) (by decide)).trans (by omega)
        refine lv_iadd E.1 E.2.1 dX11_set_57 ?_
        refine lv_topi (fun v54 e55 => ?_)
        have b56 : iv 11 26 v54 := by rw [e55]; exact iv_add (iv_lit (lo := 11) (hi := 11) 11 (by decide) (by decide)) b52 (by decide) (by decide) (by decide) (by decide)
        have l57 : v54.toInt = 11 + 3 * x1.toInt := (show v54.toInt = 11 + v50.toInt by rw [e55]; exact ti_cadd 11 (by decide) b52 (by decide) (by decide)).trans (by omega)
        refine lv_iconst (v := 2) E.1 E.2.1 dX11_set_58 (by decide) ?_
        refine lv_iadd E.1 E.2.1 dX11_set_59 ?_
        refine lv_topi (fun v58 e59 => ?_)
        have b60 : iv 13 28 v58 := by rw [e59]; exact iv_add b56 (iv_lit (lo := 2) (hi := 2) 2 (by decide) (by decide)) (by decide) (by decide) (by decide) (by decide)
        have l61 : v58.toInt = 13 + 3 * x1.toInt := (show v58.toInt = v54.toInt + 2 by rw [e59]; exact ti_addc 2 (by decide) b56 (by decide) (by decide)).trans (by omega)
        refine lv_iconst (v := 1) E.1 E.2.1 dX11_set_60 (by decide) ?_
        refine t_iast E G 54 (rfl : ro 396 = 54) (by decide) (by decide) rfl (n := 127) rfl (iv_vp b60 (by decide) (by decide)) dX11_set_61 (fun H locs G => ?_)
        obtain ⟨zz62, G, oo63, kk64⟩ : ∃ u : TS, mG D A s H locs (wd K ad u) ∧ Ok u ∧ KM z u := ⟨_, G, ok_u oo48 54 (rfl : ro 396 = 54) (wr1 13 3 0 5 (iv_lit (lo := 1) (hi := 1) 1 (by decide) (by decide)) b10 (l61.trans (by omega)) (by decide +kernel)) (by decide), KF.tr kk49 (KF_r 54 (rfl : ro 396 = 54) (by decide))⟩
        refine lv_iload_n E.1 E.2.1 dX11_set_62 rfl (lv_at hl 0 rfl) ?_
        exact RET G ⟨oo63, kk64⟩ rfl dX11_set_63
      · skip
        have b65 : iv 0 0 r21 := iv_eq c26 (iv_lit (lo := 0) (hi := 0) 0 (by decide) (by decide))
        refine lv_iconst (v := (-1)) E.1 E.2.1 dX11_set_24 (by decide) ?_
        exact RET G ⟨o, KF.rf⟩ rfl dX11_set_25
set_option maxHeartbeats 4000000 in
set_option maxRecDepth 100000 in
theorem v_move (l : Launch) (D : va_G) (K : Nat → ClassId) (ad : Nat → Nat) (z : TS) (o : Ok z) (x1 : Int32) (x2 : Int32) : cI l yX11_move cX11_move 4 .int ({ frames := 2, cells := 0, slots := 0, locals := 42 }) D K ad z [.ref (ad 386), .int x1, .int x2] (fun r u => Ok u ∧ KM z u) := by
  refine t_enterI (by decide) (Nat.le_of_ble_eq_true rfl) rfl rfl ?_
  intro p e s m args below meth c A R Q H locs ls E hfr hlo RET G hl
  have E : mE p s m meth c cX11_move args 4 RX11 D K A := E
  have hl : lv_has ls 4 [(0, .ref (ad 386)), (1, .int x1), (2, .int x2)] := hl
  refine lv_aload_n E.1 E.2.1 dX11_move_0 rfl (lv_at hl 0 rfl) ?_
  refine lv_iload_n E.1 E.2.1 dX11_move_1 rfl (lv_at hl 1 rfl) ?_
  refine t_vi E G hl (v_isLaid l D K ad z o x1) 11 (rfl : ro 386 = 11) (by decide) rfl rfl 1 rfl mw_code_X11_isLaid mw_ini_11 mw_ml_11_288 mw_inst_X11_isLaid mw_sel_X11_isLaid hd_X11_isLaid ⟨Nat.le_trans (by decide) hfr, Nat.le_trans (by decide) hlo⟩ rfl rfl rfl (Nat.le_of_ble_eq_true rfl) dX11_move_2 (fun r2 zz1 H locs hp3 G => ?_)
  obtain ⟨hz6, b4, h5⟩ := hp3
  rw [hz6] at G
  refine lv_if_eq (tgt := 25) E.1 E.2.1 dX11_move_5 (by decide) (fun c7 => ?_) (fun c7 => ?_)
  · skip
    have b8 : iv 0 0 r2 := iv_eq c7 (iv_lit (lo := 0) (hi := 0) 0 (by decide) (by decide))
    refine lv_iconst (v := (-1)) E.1 E.2.1 dX11_move_25 (by decide) ?_
    exact RET G ⟨o, KF.rf⟩ rfl dX11_move_26
  · skip
    have b9 : iv 1 1 r2 := ne_lo c7 b4 (by decide) (by decide)
    have b10 : iv 0 5 x1 := h5 c7
    refine lv_aload_n E.1 E.2.1 dX11_move_8 rfl (lv_at hl 0 rfl) ?_
    refine lv_iload_n E.1 E.2.1 dX11_move_9 rfl (lv_at hl 2 rfl) ?_
    refine t_vi E G hl (v_isCorner l D K ad z o x2) 11 (rfl : ro 386 = 11) (by decide) rfl rfl 1 rfl mw_code_X11_isCorner mw_ini_11 mw_ml_11_323 mw_inst_X11_isCorner mw_sel_X11_isCorner hd_X11_isCorner ⟨Nat.le_trans (by decide) hfr, Nat.le_trans (by decide) hlo⟩ rfl rfl rfl (Nat.le_of_ble_eq_true rfl) dX11_move_10 (fun r12 zz11 H locs hp13 G => ?_)
    obtain ⟨hz16, b14, h15⟩ := hp13
    rw [hz16] at G
    refine lv_if_eq (tgt := 25) E.1 E.2.1 dX11_move_13 (by decide) (fun c17 => ?_) (fun c17 => ?_)
    · skip
      have b18 : iv 0 0 r12 := iv_eq c17 (iv_lit (lo := 0) (hi := 0) 0 (by decide) (by decide))
      refine lv_iconst (v := (-1)) E.1 E.2.1 dX11_move_25 (by decide) ?_
      exact RET G ⟨o, KF.rf⟩ rfl dX11_move_26
    · skip
      have b19 : iv 1 1 r12 := ne_lo c17 b14 (by decide) (by decide)
      have b20 : iv 0 7 x2 := h15 c17
      refine lv_aload_n E.1 E.2.1 dX11_move_16 rfl (lv_at hl 0 rfl) ?_
      refine lv_iload_n E.1 E.2.1 dX11_move_17 rfl (lv_at hl 1 rfl) ?_
      refine t_vi E G hl (v_lureAt l D K ad z o x1 (iv_mono b10 (by decide) (by decide))) 11 (rfl : ro 386 = 11) (by decide) rfl rfl 1 rfl mw_code_X11_lureAt mw_ini_11 mw_ml_11_311 mw_inst_X11_lureAt mw_sel_X11_lureAt hd_X11_lureAt ⟨Nat.le_trans (by decide) hfr, Nat.le_trans (by decide) hlo⟩ rfl rfl rfl (Nat.le_of_ble_eq_true rfl) dX11_move_18 (fun r22 zz21 H locs hp23 G => ?_)
      have hz24 := hp23
      rw [hz24] at G
      refine lv_iload_n E.1 E.2.1 dX11_move_21 rfl (lv_at hl 2 rfl) ?_
      refine lv_icmp_ne (tgt := 27) E.1 E.2.1 dX11_move_22 (by decide) (fun c25 => ?_) (fun c25 => ?_)
      · skip
        refine lv_aload_n E.1 E.2.1 dX11_move_27 rfl (lv_at hl 0 rfl) ?_
        refine t_vv E G hl (v_keepsAct l D K ad z o) 11 (rfl : ro 386 = 11) (by decide) rfl rfl 0 rfl mw_code_X11_keepsAct mw_ini_11 mw_ml_11_362 mw_inst_X11_keepsAct mw_sel_X11_keepsAct hd_X11_keepsAct ⟨Nat.le_trans (by decide) hfr, Nat.le_trans (by decide) hlo⟩ rfl rfl rfl (Nat.le_of_ble_eq_true rfl) dX11_move_28 (fun zz26 H locs hp28 G => ?_)
        obtain ⟨oo29, kk30⟩ := hp28
        have kk31 : KM z zz26 := KF.tr KF.rf kk30
        refine lv_aload_n E.1 E.2.1 dX11_move_31 rfl (lv_at hl 0 rfl) ?_
        refine lv_iload_n E.1 E.2.1 dX11_move_32 rfl (lv_at hl 1 rfl) ?_
        refine t_vi E G hl (v_lureAt l D K ad zz26 oo29 x1 (iv_mono b10 (by decide) (by decide))) 11 (rfl : ro 386 = 11) (by decide) rfl rfl 1 rfl mw_code_X11_lureAt mw_ini_11 mw_ml_11_311 mw_inst_X11_lureAt mw_sel_X11_lureAt hd_X11_lureAt ⟨Nat.le_trans (by decide) hfr, Nat.le_trans (by decide) hlo⟩ rfl rfl rfl (Nat.le_of_ble_eq_true rfl) dX11_move_33 (fun r33 zz32 H locs hp34 G => ?_)
        have hz35 := hp34
        rw [hz35] at G
        refine lv_istore_n (lv' := [(3, .int r33), (0, .ref (ad 386)), (1, .int x1), (2, .int x2)]) E.1 E.2.1 dX11_move_36 rfl hl (by decide) rfl (fun ls hl => ?_)
        refine lv_aload_n E.1 E.2.1 dX11_move_37 rfl (lv_at hl 1 rfl) ?_
        refine t_get E G 11 20 (rfl : ro 386 = 11) (C := RX11) (T := TX11) (N := 37) rfl (by decide) (by decide) (by decide) mw_fl_11_39 (v := .ref (ad 396)) (fvl_o (n := 10) rfl) dX11_move_38 ?_
        refine lv_bipush (v := 11) E.1 E.2.1 dX11_move_41 (by decide) ?_
        refine lv_iconst (v := 3) E.1 E.2.1 dX11_move_43 (by decide) ?_
        refine lv_iload_n E.1 E.2.1 dX11_move_44 rfl (lv_at hl 2 rfl) ?_
        refine lv_imul E.1 E.2.1 dX11_move_45 ?_
        refine lv_topi (fun v36 e37 => ?_)
        have b38 : iv 0 15 v36 := by rw [e37]; exact iv_mulc' b10 3 (by decide) (by decide) (by decide) (by decide) (by decide) (by decide)
        have l39 : v36.toInt = 0 + 3 * x1.toInt := (show v36.toInt = 3 * x1.toInt by rw [e37]; exact ti_cmul 3 (by decide) (by decide) b10 (by decide) (by decide)).trans (by omega)
        refine lv_iadd E.1 E.2.1 dX11_move_46 ?_
        refine lv_topi (fun v40 e41 => ?_)
        have b42 : iv 11 26 v40 := by rw [e41]; exact iv_add (iv_lit (lo := 11) (hi := 11) 11 (by decide) (by decide)) b38 (by decide) (by decide) (by decide) (by decide)
        have l43 : v40.toInt = 11 + 3 * x1.toInt := (show v40.toInt = 11 + v36.toInt by rw [e41]; exact ti_cadd 11 (by decide) b38 (by decide) (by decide)).trans (by omega)
        refine lv_iload_n E.1 E.2.1 dX11_move_47 rfl (lv_at hl 3 rfl) ?_
        refine t_iast E G 54 (rfl : ro 396 = 54) (by decide) (by decide) rfl (n := 127) rfl (iv_vp b42 (by decide) (by decide)) dX11_move_48 (fun H locs G => ?_)
        obtain ⟨zz44, G, oo45, kk46⟩ : ∃ u : TS, mG D A s H locs (wd K ad u) ∧ Ok u ∧ KM z u := ⟨_, G, ok_u oo29 54 (rfl : ro 396 = 54) (wr1 11 3 0 5 b20 b10 (l43.trans (by omega)) (by decide +kernel)) (by decide), KF.tr kk31 (KF_r 54 (rfl : ro 396 = 54) (by decide))⟩
        refine lv_iload_n E.1 E.2.1 dX11_move_49 rfl (lv_at hl 0 rfl) ?_
        exact RET G ⟨oo45, kk46⟩ rfl dX11_move_50
      · skip
        refine lv_iconst (v := (-1)) E.1 E.2.1 dX11_move_25 (by decide) ?_
        exact RET G ⟨o, KF.rf⟩ rfl dX11_move_26
set_option maxHeartbeats 4000000 in
set_option maxRecDepth 100000 in
theorem v_bait (l : Launch) (D : va_G) (K : Nat → ClassId) (ad : Nat → Nat) (z : TS) (o : Ok z) (x1 : Int32) (x2 : Int32) : cI l yX11_bait cX11_bait 4 .int ({ frames := 1, cells := 0, slots := 0, locals := 25 }) D K ad z [.ref (ad 386), .int x1, .int x2] (fun r u => Ok u ∧ KM z u) := by
  refine t_enterI (by decide) (Nat.le_of_ble_eq_true rfl) rfl rfl ?_
  intro p e s m args below meth c A R Q H locs ls E hfr hlo RET G hl
  have E : mE p s m meth c cX11_bait args 4 RX11 D K A := E
  have hl : lv_has ls 4 [(0, .ref (ad 386)), (1, .int x1), (2, .int x2)] := hl
  refine lv_aload_n E.1 E.2.1 dX11_bait_0 rfl (lv_at hl 0 rfl) ?_
  refine lv_iload_n E.1 E.2.1 dX11_bait_1 rfl (lv_at hl 1 rfl) ?_
  refine t_vi E G hl (v_isLure l D K ad z o x1) 11 (rfl : ro 386 = 11) (by decide) rfl rfl 1 rfl mw_code_X11_isLure mw_ini_11 mw_ml_11_285 mw_inst_X11_isLure mw_sel_X11_isLure hd_X11_isLure ⟨Nat.le_trans (by decide) hfr, Nat.le_trans (by decide) hlo⟩ rfl rfl rfl (Nat.le_of_ble_eq_true rfl) dX11_bait_2 (fun r2 zz1 H locs hp3 G => ?_)
  obtain ⟨hz6, b4, h5⟩ := hp3
  rw [hz6] at G
  refine lv_if_eq (tgt := 29) E.1 E.2.1 dX11_bait_5 (by decide) (fun c7 => ?_) (fun c7 => ?_)
  · skip
    have b8 : iv 0 0 r2 := iv_eq c7 (iv_lit (lo := 0) (hi := 0) 0 (by decide) (by decide))
    refine lv_iconst (v := (-1)) E.1 E.2.1 dX11_bait_29 (by decide) ?_
    exact RET G ⟨o, KF.rf⟩ rfl dX11_bait_30
  · skip
    have b9 : iv 1 1 r2 := ne_lo c7 b4 (by decide) (by decide)
    have b10 : iv 0 5 x1 := h5 c7
    refine lv_iload_n E.1 E.2.1 dX11_bait_8 rfl (lv_at hl 2 rfl) ?_
    refine lv_i2l E.1 E.2.1 dX11_bait_9 rfl ?_
    refine lv_topl (fun v11 e12 => ?_)
    refine lv_lconst (v := 0) E.1 E.2.1 dX11_bait_10 (by decide) ?_
    refine lv_ldc2 (v := 7) E.1 E.2.1 E.2.2.2.1 (E.2.2.2.2.1 _ mw_cL_11_365) dX11_bait_11 ?_
    refine t_si E G hl (v_in l D K ad z o v11 0 7) 3 rfl mw_code_X11_in mw_ini_11 mw_ml_11_121 mw_stat_X11_in hd_X11_in ⟨Nat.le_trans (by decide) hfr, Nat.le_trans (by decide) hlo⟩ rfl rfl rfl (Nat.le_of_ble_eq_true rfl) dX11_bait_14 (fun r14 zz13 H locs hp15 G => ?_)
    obtain ⟨hz18, b16, h17⟩ := hp15
    rw [hz18] at G
    refine lv_if_eq (tgt := 29) E.1 E.2.1 dX11_bait_17 (by decide) (fun c19 => ?_) (fun c19 => ?_)
    · skip
      have b20 : iv 0 0 r14 := iv_eq c19 (iv_lit (lo := 0) (hi := 0) 0 (by decide) (by decide))
      refine lv_iconst (v := (-1)) E.1 E.2.1 dX11_bait_29 (by decide) ?_
      exact RET G ⟨o, KF.rf⟩ rfl dX11_bait_30
    · skip
      have b21 : iv 1 1 r14 := ne_lo c19 b16 (by decide) (by decide)
      have b22 : iv 0 7 x2 := (fun q => in_iv e12 (h17 q) (by decide) (by decide)) c19
      refine lv_aload_n E.1 E.2.1 dX11_bait_20 rfl (lv_at hl 0 rfl) ?_
      refine lv_iload_n E.1 E.2.1 dX11_bait_21 rfl (lv_at hl 1 rfl) ?_
      refine t_vi E G hl (v_kindOf l D K ad z o x1 (iv_mono b10 (by decide) (by decide))) 11 (rfl : ro 386 = 11) (by decide) rfl rfl 1 rfl mw_code_X11_kindOf mw_ini_11 mw_ml_11_314 mw_inst_X11_kindOf mw_sel_X11_kindOf hd_X11_kindOf ⟨Nat.le_trans (by decide) hfr, Nat.le_trans (by decide) hlo⟩ rfl rfl rfl (Nat.le_of_ble_eq_true rfl) dX11_bait_22 (fun r24 zz23 H locs hp25 G => ?_)
      have hz26 := hp25
      rw [hz26] at G
      refine lv_iload_n E.1 E.2.1 dX11_bait_25 rfl (lv_at hl 2 rfl) ?_
      refine lv_icmp_ne (tgt := 31) E.1 E.2.1 dX11_bait_26 (by decide) (fun c27 => ?_) (fun c27 => ?_)
      · skip
        refine lv_aload_n E.1 E.2.1 dX11_bait_31 rfl (lv_at hl 0 rfl) ?_
        refine t_vv E G hl (v_keepsAct l D K ad z o) 11 (rfl : ro 386 = 11) (by decide) rfl rfl 0 rfl mw_code_X11_keepsAct mw_ini_11 mw_ml_11_362 mw_inst_X11_keepsAct mw_sel_X11_keepsAct hd_X11_keepsAct ⟨Nat.le_trans (by decide) hfr, Nat.le_trans (by decide) hlo⟩ rfl rfl rfl (Nat.le_of_ble_eq_true rfl) dX11_bait_32 (fun zz28 H locs hp30 G => ?_)
        obtain ⟨oo31, kk32⟩ := hp30
        have kk33 : KM z zz28 := KF.tr KF.rf kk32
        refine lv_aload_n E.1 E.2.1 dX11_bait_35 rfl (lv_at hl 0 rfl) ?_
        refine lv_iload_n E.1 E.2.1 dX11_bait_36 rfl (lv_at hl 1 rfl) ?_
        refine t_vi E G hl (v_kindOf l D K ad zz28 oo31 x1 (iv_mono b10 (by decide) (by decide))) 11 (rfl : ro 386 = 11) (by decide) rfl rfl 1 rfl mw_code_X11_kindOf mw_ini_11 mw_ml_11_314 mw_inst_X11_kindOf mw_sel_X11_kindOf hd_X11_kindOf ⟨Nat.le_trans (by decide) hfr, Nat.le_trans (by decide) hlo⟩ rfl rfl rfl (Nat.le_of_ble_eq_true rfl) dX11_bait_37 (fun r35 zz34 H locs hp36 G => ?_)
        have hz37 := hp36
        rw [hz37] at G
        refine lv_istore_n (lv' := [(3, .int r35), (0, .ref (ad 386)), (1, .int x1), (2, .int x2)]) E.1 E.2.1 dX11_bait_40 rfl hl (by decide) rfl (fun ls hl => ?_)
        refine lv_aload_n E.1 E.2.1 dX11_bait_41 rfl (lv_at hl 1 rfl) ?_
        refine t_get E G 11 20 (rfl : ro 386 = 11) (C := RX11) (T := TX11) (N := 37) rfl (by decide) (by decide) (by decide) mw_fl_11_39 (v := .ref (ad 396)) (fvl_o (n := 10) rfl) dX11_bait_42 ?_
        refine lv_bipush (v := 11) E.1 E.2.1 dX11_bait_45 (by decide) ?_
        refine lv_iconst (v := 3) E.1 E.2.1 dX11_bait_47 (by decide) ?_
        refine lv_iload_n E.1 E.2.1 dX11_bait_48 rfl (lv_at hl 2 rfl) ?_
        refine lv_imul E.1 E.2.1 dX11_bait_49 ?_
        refine lv_topi (fun v38 e39 => ?_)
        have b40 : iv 0 15 v38 := by rw [e39]; exact iv_mulc' b10 3 (by decide) (by decide) (by decide) (by decide) (by decide) (by decide)
        have l41 : v38.toInt = 0 + 3 * x1.toInt := (show v38.toInt = 3 * x1.toInt by rw [e39]; exact ti_cmul 3 (by decide) (by decide) b10 (by decide) (by decide)).trans (by omega)
        refine lv_iadd E.1 E.2.1 dX11_bait_50 ?_
        refine lv_topi (fun v42 e43 => ?_)
        have b44 : iv 11 26 v42 := by rw [e43]; exact iv_add (iv_lit (lo := 11) (hi := 11) 11 (by decide) (by decide)) b40 (by decide) (by decide) (by decide) (by decide)
        have l45 : v42.toInt = 11 + 3 * x1.toInt := (show v42.toInt = 11 + v38.toInt by rw [e43]; exact ti_cadd 11 (by decide) b40 (by decide) (by decide)).trans (by omega)
        refine lv_iconst (v := 1) E.1 E.2.1 dX11_bait_51 (by decide) ?_
        refine lv_iadd E.1 E.2.1 dX11_bait_52 ?_
        refine lv_topi (fun v46 e47 => ?_)
        have b48 : iv 12 27 v46 := by rw [e47]; exact iv_add b44 (iv_lit (lo := 1) (hi := 1) 1 (by decide) (by decide)) (by decide) (by decide) (by decide) (by decide)
        have l49 : v46.toInt = 12 + 3 * x1.toInt := (show v46.toInt = v42.toInt + 1 by rw [e47]; exact ti_addc 1 (by decide) b44 (by decide) (by decide)).trans (by omega)
        refine lv_iload_n E.1 E.2.1 dX11_bait_53 rfl (lv_at hl 3 rfl) ?_
        refine t_iast E G 54 (rfl : ro 396 = 54) (by decide) (by decide) rfl (n := 127) rfl (iv_vp b48 (by decide) (by decide)) dX11_bait_54 (fun H locs G => ?_)
        obtain ⟨zz50, G, oo51, kk52⟩ : ∃ u : TS, mG D A s H locs (wd K ad u) ∧ Ok u ∧ KM z u := ⟨_, G, ok_u oo31 54 (rfl : ro 396 = 54) (wr1 12 3 0 5 b22 b10 (l49.trans (by omega)) (by decide +kernel)) (by decide), KF.tr kk33 (KF_r 54 (rfl : ro 396 = 54) (by decide))⟩
        refine lv_iload_n E.1 E.2.1 dX11_bait_55 rfl (lv_at hl 0 rfl) ?_
        exact RET G ⟨oo51, kk52⟩ rfl dX11_bait_56
      · skip
        refine lv_iconst (v := (-1)) E.1 E.2.1 dX11_bait_29 (by decide) ?_
        exact RET G ⟨o, KF.rf⟩ rfl dX11_bait_30
set_option maxHeartbeats 4000000 in
set_option maxRecDepth 100000 in
theorem v_calm (l : Launch) (D : va_G) (K : Nat → ClassId) (ad : Nat → Nat) (z : TS) (o : Ok z) (x1 : Int32) (x2 : Int32) : cI l yX11_calm cX11_calm 4 .int ({ frames := 1, cells := 0, slots := 0, locals := 25 }) D K ad z [.ref (ad 386), .int x1, .int x2] (fun r u => Ok u ∧ KM z u) := by
  refine t_enterI (by decide) (Nat.le_of_ble_eq_true rfl) rfl rfl ?_
  intro p e s m args below meth c A R Q H locs ls E hfr hlo RET G hl
  have E : mE p s m meth c cX11_calm args 4 RX11 D K A := E
  have hl : lv_has ls 4 [(0, .ref (ad 386)), (1, .int x1), (2, .int x2)] := hl
  refine lv_aload_n E.1 E.2.1 dX11_calm_0 rfl (lv_at hl 0 rfl) ?_
  refine lv_iload_n E.1 E.2.1 dX11_calm_1 rfl (lv_at hl 1 rfl) ?_
  refine t_vi E G hl (v_isWalker l D K ad z o x1) 11 (rfl : ro 386 = 11) (by decide) rfl rfl 1 rfl mw_code_X11_isWalker mw_ini_11 mw_ml_11_317 mw_inst_X11_isWalker mw_sel_X11_isWalker hd_X11_isWalker ⟨Nat.le_trans (by decide) hfr, Nat.le_trans (by decide) hlo⟩ rfl rfl rfl (Nat.le_of_ble_eq_true rfl) dX11_calm_2 (fun r2 zz1 H locs hp3 G => ?_)
  obtain ⟨hz6, b4, h5⟩ := hp3
  rw [hz6] at G
  refine lv_if_eq (tgt := 29) E.1 E.2.1 dX11_calm_5 (by decide) (fun c7 => ?_) (fun c7 => ?_)
  · skip
    have b8 : iv 0 0 r2 := iv_eq c7 (iv_lit (lo := 0) (hi := 0) 0 (by decide) (by decide))
    refine lv_iconst (v := (-1)) E.1 E.2.1 dX11_calm_29 (by decide) ?_
    exact RET G ⟨o, KF.rf⟩ rfl dX11_calm_30
  · skip
    have b9 : iv 1 1 r2 := ne_lo c7 b4 (by decide) (by decide)
    have b10 : iv 0 4 x1 := h5 c7
    refine lv_iload_n E.1 E.2.1 dX11_calm_8 rfl (lv_at hl 2 rfl) ?_
    refine lv_i2l E.1 E.2.1 dX11_calm_9 rfl ?_
    refine lv_topl (fun v11 e12 => ?_)
    refine lv_lconst (v := 0) E.1 E.2.1 dX11_calm_10 (by decide) ?_
    refine lv_ldc2 (v := 9) E.1 E.2.1 E.2.2.2.1 (E.2.2.2.2.1 _ mw_cL_11_367) dX11_calm_11 ?_
    refine t_si E G hl (v_in l D K ad z o v11 0 9) 3 rfl mw_code_X11_in mw_ini_11 mw_ml_11_121 mw_stat_X11_in hd_X11_in ⟨Nat.le_trans (by decide) hfr, Nat.le_trans (by decide) hlo⟩ rfl rfl rfl (Nat.le_of_ble_eq_true rfl) dX11_calm_14 (fun r14 zz13 H locs hp15 G => ?_)
    obtain ⟨hz18, b16, h17⟩ := hp15
    rw [hz18] at G
    refine lv_if_eq (tgt := 29) E.1 E.2.1 dX11_calm_17 (by decide) (fun c19 => ?_) (fun c19 => ?_)
    · skip
      have b20 : iv 0 0 r14 := iv_eq c19 (iv_lit (lo := 0) (hi := 0) 0 (by decide) (by decide))
      refine lv_iconst (v := (-1)) E.1 E.2.1 dX11_calm_29 (by decide) ?_
      exact RET G ⟨o, KF.rf⟩ rfl dX11_calm_30
    · skip
      have b21 : iv 1 1 r14 := ne_lo c19 b16 (by decide) (by decide)
      have b22 : iv 0 9 x2 := (fun q => in_iv e12 (h17 q) (by decide) (by decide)) c19
      refine lv_aload_n E.1 E.2.1 dX11_calm_20 rfl (lv_at hl 0 rfl) ?_
      refine lv_iload_n E.1 E.2.1 dX11_calm_21 rfl (lv_at hl 1 rfl) ?_
      refine t_vi E G hl (v_waryOf l D K ad z o x1 (iv_mono b10 (by decide) (by decide))) 11 (rfl : ro 386 = 11) (by decide) rfl rfl 1 rfl mw_code_X11_waryOf mw_ini_11 mw_ml_11_320 mw_inst_X11_waryOf mw_sel_X11_waryOf hd_X11_waryOf ⟨Nat.le_trans (by decide) hfr, Nat.le_trans (by decide) hlo⟩ rfl rfl rfl (Nat.le_of_ble_eq_true rfl) dX11_calm_22 (fun r24 zz23 H locs hp25 G => ?_)
      have hz26 := hp25
      rw [hz26] at G
      refine lv_iload_n E.1 E.2.1 dX11_calm_25 rfl (lv_at hl 2 rfl) ?_
      refine lv_icmp_ne (tgt := 31) E.1 E.2.1 dX11_calm_26 (by decide) (fun c27 => ?_) (fun c27 => ?_)
      · skip
        refine lv_aload_n E.1 E.2.1 dX11_calm_31 rfl (lv_at hl 0 rfl) ?_
        refine t_vv E G hl (v_keepsAct l D K ad z o) 11 (rfl : ro 386 = 11) (by decide) rfl rfl 0 rfl mw_code_X11_keepsAct mw_ini_11 mw_ml_11_362 mw_inst_X11_keepsAct mw_sel_X11_keepsAct hd_X11_keepsAct ⟨Nat.le_trans (by decide) hfr, Nat.le_trans (by decide) hlo⟩ rfl rfl rfl (Nat.le_of_ble_eq_true rfl) dX11_calm_32 (fun zz28 H locs hp30 G => ?_)
        obtain ⟨oo31, kk32⟩ := hp30
        have kk33 : KM z zz28 := KF.tr KF.rf kk32
        refine lv_aload_n E.1 E.2.1 dX11_calm_35 rfl (lv_at hl 0 rfl) ?_
        refine lv_iload_n E.1 E.2.1 dX11_calm_36 rfl (lv_at hl 1 rfl) ?_
        refine t_vi E G hl (v_waryOf l D K ad zz28 oo31 x1 (iv_mono b10 (by decide) (by decide))) 11 (rfl : ro 386 = 11) (by decide) rfl rfl 1 rfl mw_code_X11_waryOf mw_ini_11 mw_ml_11_320 mw_inst_X11_waryOf mw_sel_X11_waryOf hd_X11_waryOf ⟨Nat.le_trans (by decide) hfr, Nat.le_trans (by decide) hlo⟩ rfl rfl rfl (Nat.le_of_ble_eq_true rfl) dX11_calm_37 (fun r35 zz34 H locs hp36 G => ?_)
        have hz37 := hp36
        rw [hz37] at G
        refine lv_istore_n (lv' := [(3, .int r35), (0, .ref (ad 386)), (1, .int x1), (2, .int x2)]) E.1 E.2.1 dX11_calm_40 rfl hl (by decide) rfl (fun ls hl => ?_)
        refine lv_aload_n E.1 E.2.1 dX11_calm_41 rfl (lv_at hl 1 rfl) ?_
        refine t_get E G 11 20 (rfl : ro 386 = 11) (C := RX11) (T := TX11) (N := 37) rfl (by decide) (by decide) (by decide) mw_fl_11_39 (v := .ref (ad 396)) (fvl_o (n := 10) rfl) dX11_calm_42 ?_
        refine lv_bipush (v := 29) E.1 E.2.1 dX11_calm_45 (by decide) ?_
        refine lv_iconst (v := 3) E.1 E.2.1 dX11_calm_47 (by decide) ?_
        refine lv_iload_n E.1 E.2.1 dX11_calm_48 rfl (lv_at hl 2 rfl) ?_
        refine lv_imul E.1 E.2.1 dX11_calm_49 ?_
        refine lv_topi (fun v38 e39 => ?_)
        have b40 : iv 0 12 v38 := by rw [e39]; exact iv_mulc' b10 3 (by decide) (by decide) (by decide) (by decide) (by decide) (by decide)
        have l41 : v38.toInt = 0 + 3 * x1.toInt := (show v38.toInt = 3 * x1.toInt by rw [e39]; exact ti_cmul 3 (by decide) (by decide) b10 (by decide) (by decide)).trans (by omega)
        refine lv_iadd E.1 E.2.1 dX11_calm_50 ?_
        refine lv_topi (fun v42 e43 => ?_)
        have b44 : iv 29 41 v42 := by rw [e43]; exact iv_add (iv_lit (lo := 29) (hi := 29) 29 (by decide) (by decide)) b40 (by decide) (by decide) (by decide) (by decide)
        have l45 : v42.toInt = 29 + 3 * x1.toInt := (show v42.toInt = 29 + v38.toInt by rw [e43]; exact ti_cadd 29 (by decide) b40 (by decide) (by decide)).trans (by omega)
        refine lv_iconst (v := 1) E.1 E.2.1 dX11_calm_51 (by decide) ?_
        refine lv_iadd E.1 E.2.1 dX11_calm_52 ?_
        refine lv_topi (fun v46 e47 => ?_)
        have b48 : iv 30 42 v46 := by rw [e47]; exact iv_add b44 (iv_lit (lo := 1) (hi := 1) 1 (by decide) (by decide)) (by decide) (by decide) (by decide) (by decide)
        have l49 : v46.toInt = 30 + 3 * x1.toInt := (show v46.toInt = v42.toInt + 1 by rw [e47]; exact ti_addc 1 (by decide) b44 (by decide) (by decide)).trans (by omega)
        refine lv_iload_n E.1 E.2.1 dX11_calm_53 rfl (lv_at hl 3 rfl) ?_
        refine t_iast E G 54 (rfl : ro 396 = 54) (by decide) (by decide) rfl (n := 127) rfl (iv_vp b48 (by decide) (by decide)) dX11_calm_54 (fun H locs G => ?_)
        obtain ⟨zz50, G, oo51, kk52⟩ : ∃ u : TS, mG D A s H locs (wd K ad u) ∧ Ok u ∧ KM z u := ⟨_, G, ok_u oo31 54 (rfl : ro 396 = 54) (wr1 30 3 0 4 b22 b10 (l49.trans (by omega)) (by decide +kernel)) (by decide), KF.tr kk33 (KF_r 54 (rfl : ro 396 = 54) (by decide))⟩
        refine lv_iload_n E.1 E.2.1 dX11_calm_55 rfl (lv_at hl 0 rfl) ?_
        exact RET G ⟨oo51, kk52⟩ rfl dX11_calm_56
      · skip
        refine lv_iconst (v := (-1)) E.1 E.2.1 dX11_calm_29 (by decide) ?_
        exact RET G ⟨o, KF.rf⟩ rfl dX11_calm_30
