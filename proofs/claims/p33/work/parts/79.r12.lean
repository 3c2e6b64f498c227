theorem mw_code_X11_chargesIn : (Cond.code yX11_chargesIn cX11_chargesIn 3 (some .int) : Cond) ∈ cw := cw_of (List.mem_append_right _ (List.mem_append_right _ (List.mem_append_right _ (List.mem_append_right _ (List.mem_append_right _ (List.mem_append_right _ (List.mem_append_right _ (List.mem_append_left _ (List.mem_of_getElem? (i := 130) rfl))))))))) (by decide +kernel)
theorem mw_code_X11_hasThen : (Cond.code yX11_hasThen cX11_hasThen 3 (some .int) : Cond) ∈ cw := cw_of (List.mem_append_right _ (List.mem_append_right _ (List.mem_append_right _ (List.mem_append_right _ (List.mem_append_right _ (List.mem_append_right _ (List.mem_append_right _ (List.mem_append_left _ (List.mem_of_getElem? (i := 162) rfl))))))))) (by decide +kernel)
theorem mw_inst_X11_chargesIn : (Cond.instanceMethod yX11_chargesIn : Cond) ∈ cw := cw_of (List.mem_append_right _ (List.mem_append_right _ (List.mem_append_right _ (List.mem_append_right _ (List.mem_append_right _ (List.mem_append_right _ (List.mem_append_right _ (List.mem_append_left _ (List.mem_of_getElem? (i := 129) (by decide +kernel)))))))))) (by decide +kernel)
theorem mw_inst_X11_hasThen : (Cond.instanceMethod yX11_hasThen : Cond) ∈ cw := cw_of (List.mem_append_right _ (List.mem_append_right _ (List.mem_append_right _ (List.mem_append_right _ (List.mem_append_right _ (List.mem_append_right _ (List.mem_append_right _ (List.mem_append_left _ (List.mem_of_getElem? (i := 161) (by decide +kernel)))))))))) (by decide +kernel)
theorem mw_ml_11_397 : (Cond.methodLink RX11 397 yX11_chargesIn : Cond) ∈ cw := cw_of (List.mem_append_right _ (List.mem_append_right _ (List.mem_append_right _ (List.mem_append_right _ (List.mem_append_right _ (List.mem_append_right _ (List.mem_append_right _ (List.mem_append_left _ (List.mem_of_getElem? (i := 127) (by decide +kernel)))))))))) (by decide +kernel)
theorem mw_ml_11_412 : (Cond.methodLink RX11 412 yX11_hasThen : Cond) ∈ cw := cw_of (List.mem_append_right _ (List.mem_append_right _ (List.mem_append_right _ (List.mem_append_right _ (List.mem_append_right _ (List.mem_append_right _ (List.mem_append_right _ (List.mem_append_left _ (List.mem_of_getElem? (i := 159) (by decide +kernel)))))))))) (by decide +kernel)
theorem mw_sel_X11_chargesIn : (Cond.selects RX11 yX11_chargesIn yX11_chargesIn : Cond) ∈ cw := cw_of (List.mem_append_left _ (List.mem_of_getElem? (i := 112) (by decide +kernel))) (by decide +kernel)
theorem mw_sel_X11_hasThen : (Cond.selects RX11 yX11_hasThen yX11_hasThen : Cond) ∈ cw := cw_of (List.mem_append_left _ (List.mem_of_getElem? (i := 116) (by decide +kernel))) (by decide +kernel)
theorem dX11_bestFor_0 : decode cX11_bestFor 0 = .ok (.aload_n 0, 1) := by decide +kernel
theorem dX11_bestFor_1 : decode cX11_bestFor 1 = .ok (.invokevirtual 373, 3) := by decide +kernel
theorem dX11_bestFor_4 : decode cX11_bestFor 4 = .ok (.aload_n 0, 1) := by decide +kernel
theorem dX11_bestFor_5 : decode cX11_bestFor 5 = .ok (.getfield 39, 3) := by decide +kernel
theorem dX11_bestFor_8 : decode cX11_bestFor 8 = .ok (.iload_n 1, 1) := by decide +kernel
theorem dX11_bestFor_9 : decode cX11_bestFor 9 = .ok (.iaload, 1) := by decide +kernel
theorem dX11_bestFor_10 : decode cX11_bestFor 10 = .ok (.istore 5, 2) := by decide +kernel
theorem dX11_bestFor_12 : decode cX11_bestFor 12 = .ok (.aload_n 0, 1) := by decide +kernel
theorem dX11_bestFor_13 : decode cX11_bestFor 13 = .ok (.iload_n 3, 1) := by decide +kernel
theorem dX11_bestFor_14 : decode cX11_bestFor 14 = .ok (.invokevirtual 397, 3) := by decide +kernel
theorem dX11_bestFor_17 : decode cX11_bestFor 17 = .ok (.istore 6, 2) := by decide +kernel
theorem dX11_bestFor_19 : decode cX11_bestFor 19 = .ok (.iconst 0, 1) := by decide +kernel
theorem dX11_bestFor_20 : decode cX11_bestFor 20 = .ok (.istore 7, 2) := by decide +kernel
theorem dX11_bestFor_22 : decode cX11_bestFor 22 = .ok (.iload 7, 2) := by decide +kernel
theorem dX11_bestFor_24 : decode cX11_bestFor 24 = .ok (.iload_n 2, 1) := by decide +kernel
theorem dX11_bestFor_25 : decode cX11_bestFor 25 = .ok (.if_icmp .ge 42, 3) := by decide +kernel
theorem dX11_bestFor_28 : decode cX11_bestFor 28 = .ok (.aload_n 0, 1) := by decide +kernel
theorem dX11_bestFor_29 : decode cX11_bestFor 29 = .ok (.getfield 39, 3) := by decide +kernel
theorem dX11_bestFor_32 : decode cX11_bestFor 32 = .ok (.iload_n 1, 1) := by decide +kernel
theorem dX11_bestFor_33 : decode cX11_bestFor 33 = .ok (.iload 7, 2) := by decide +kernel
theorem dX11_bestFor_35 : decode cX11_bestFor 35 = .ok (.iastore, 1) := by decide +kernel
theorem dX11_bestFor_36 : decode cX11_bestFor 36 = .ok (.aload_n 0, 1) := by decide +kernel
theorem dX11_bestFor_37 : decode cX11_bestFor 37 = .ok (.iload_n 3, 1) := by decide +kernel
theorem dX11_bestFor_38 : decode cX11_bestFor 38 = .ok (.invokevirtual 397, 3) := by decide +kernel
theorem dX11_bestFor_41 : decode cX11_bestFor 41 = .ok (.istore 8, 2) := by decide +kernel
theorem dX11_bestFor_43 : decode cX11_bestFor 43 = .ok (.iload 8, 2) := by decide +kernel
theorem dX11_bestFor_45 : decode cX11_bestFor 45 = .ok (.iload 6, 2) := by decide +kernel
theorem dX11_bestFor_47 : decode cX11_bestFor 47 = .ok (.if_icmp .gt 6, 3) := by decide +kernel
theorem dX11_bestFor_50 : decode cX11_bestFor 50 = .ok (.goto 11, 3) := by decide +kernel
theorem dX11_bestFor_53 : decode cX11_bestFor 53 = .ok (.iload 7, 2) := by decide +kernel
theorem dX11_bestFor_55 : decode cX11_bestFor 55 = .ok (.istore 5, 2) := by decide +kernel
theorem dX11_bestFor_57 : decode cX11_bestFor 57 = .ok (.iload 8, 2) := by decide +kernel
theorem dX11_bestFor_59 : decode cX11_bestFor 59 = .ok (.istore 6, 2) := by decide +kernel
theorem dX11_bestFor_61 : decode cX11_bestFor 61 = .ok (.iinc 7 1, 3) := by decide +kernel
theorem dX11_bestFor_64 : decode cX11_bestFor 64 = .ok (.goto (-42), 3) := by decide +kernel
theorem dX11_bestFor_67 : decode cX11_bestFor 67 = .ok (.iload 4, 2) := by decide +kernel
theorem dX11_bestFor_69 : decode cX11_bestFor 69 = .ok (.ifCond .ne 8, 3) := by decide +kernel
theorem dX11_bestFor_72 : decode cX11_bestFor 72 = .ok (.iload 5, 2) := by decide +kernel
theorem dX11_bestFor_74 : decode cX11_bestFor 74 = .ok (.goto 5, 3) := by decide +kernel
theorem dX11_bestFor_77 : decode cX11_bestFor 77 = .ok (.iload 6, 2) := by decide +kernel
theorem dX11_bestFor_79 : decode cX11_bestFor 79 = .ok (.ireturn, 1) := by decide +kernel
theorem dX11_fillsRest_0 : decode cX11_fillsRest 0 = .ok (.iconst 2, 1) := by decide +kernel
theorem dX11_fillsRest_1 : decode cX11_fillsRest 1 = .ok (.bipush 8, 2) := by decide +kernel
theorem dX11_fillsRest_3 : decode cX11_fillsRest 3 = .ok (.iload_n 3, 1) := by decide +kernel
theorem dX11_fillsRest_4 : decode cX11_fillsRest 4 = .ok (.imul, 1) := by decide +kernel
theorem dX11_fillsRest_5 : decode cX11_fillsRest 5 = .ok (.iload 4, 2) := by decide +kernel
theorem dX11_fillsRest_7 : decode cX11_fillsRest 7 = .ok (.iadd, 1) := by decide +kernel
theorem dX11_fillsRest_8 : decode cX11_fillsRest 8 = .ok (.imul, 1) := by decide +kernel
theorem dX11_fillsRest_9 : decode cX11_fillsRest 9 = .ok (.istore 6, 2) := by decide +kernel
theorem dX11_fillsRest_11 : decode cX11_fillsRest 11 = .ok (.aload_n 0, 1) := by decide +kernel
theorem dX11_fillsRest_12 : decode cX11_fillsRest 12 = .ok (.getfield 39, 3) := by decide +kernel
theorem dX11_fillsRest_15 : decode cX11_fillsRest 15 = .ok (.bipush 11, 2) := by decide +kernel
theorem dX11_fillsRest_17 : decode cX11_fillsRest 17 = .ok (.iconst 3, 1) := by decide +kernel
theorem dX11_fillsRest_18 : decode cX11_fillsRest 18 = .ok (.iload_n 1, 1) := by decide +kernel
theorem dX11_fillsRest_19 : decode cX11_fillsRest 19 = .ok (.imul, 1) := by decide +kernel
theorem dX11_fillsRest_20 : decode cX11_fillsRest 20 = .ok (.iadd, 1) := by decide +kernel
theorem dX11_fillsRest_21 : decode cX11_fillsRest 21 = .ok (.iload_n 3, 1) := by decide +kernel
theorem dX11_fillsRest_22 : decode cX11_fillsRest 22 = .ok (.iastore, 1) := by decide +kernel
theorem dX11_fillsRest_23 : decode cX11_fillsRest 23 = .ok (.aload_n 0, 1) := by decide +kernel
theorem dX11_fillsRest_24 : decode cX11_fillsRest 24 = .ok (.getfield 39, 3) := by decide +kernel
theorem dX11_fillsRest_27 : decode cX11_fillsRest 27 = .ok (.bipush 11, 2) := by decide +kernel
theorem dX11_fillsRest_29 : decode cX11_fillsRest 29 = .ok (.iconst 3, 1) := by decide +kernel
theorem dX11_fillsRest_30 : decode cX11_fillsRest 30 = .ok (.iload_n 2, 1) := by decide +kernel
theorem dX11_fillsRest_31 : decode cX11_fillsRest 31 = .ok (.imul, 1) := by decide +kernel
theorem dX11_fillsRest_32 : decode cX11_fillsRest 32 = .ok (.iadd, 1) := by decide +kernel
theorem dX11_fillsRest_33 : decode cX11_fillsRest 33 = .ok (.iload 4, 2) := by decide +kernel
theorem dX11_fillsRest_35 : decode cX11_fillsRest 35 = .ok (.iastore, 1) := by decide +kernel
theorem dX11_fillsRest_36 : decode cX11_fillsRest 36 = .ok (.aload_n 0, 1) := by decide +kernel
theorem dX11_fillsRest_37 : decode cX11_fillsRest 37 = .ok (.iload 5, 2) := by decide +kernel
theorem dX11_fillsRest_39 : decode cX11_fillsRest 39 = .ok (.invokevirtual 376, 3) := by decide +kernel
theorem dX11_fillsRest_42 : decode cX11_fillsRest 42 = .ok (.aload_n 0, 1) := by decide +kernel
theorem dX11_fillsRest_43 : decode cX11_fillsRest 43 = .ok (.getfield 58, 3) := by decide +kernel
theorem dX11_fillsRest_46 : decode cX11_fillsRest 46 = .ok (.iload 6, 2) := by decide +kernel
theorem dX11_fillsRest_48 : decode cX11_fillsRest 48 = .ok (.aload_n 0, 1) := by decide +kernel
theorem dX11_fillsRest_49 : decode cX11_fillsRest 49 = .ok (.iload_n 1, 1) := by decide +kernel
theorem dX11_fillsRest_50 : decode cX11_fillsRest 50 = .ok (.invokevirtual 412, 3) := by decide +kernel
theorem dX11_fillsRest_53 : decode cX11_fillsRest 53 = .ok (.iastore, 1) := by decide +kernel
theorem dX11_fillsRest_54 : decode cX11_fillsRest 54 = .ok (.aload_n 0, 1) := by decide +kernel
theorem dX11_fillsRest_55 : decode cX11_fillsRest 55 = .ok (.getfield 58, 3) := by decide +kernel
theorem dX11_fillsRest_58 : decode cX11_fillsRest 58 = .ok (.iload 6, 2) := by decide +kernel
theorem dX11_fillsRest_60 : decode cX11_fillsRest 60 = .ok (.iconst 1, 1) := by decide +kernel
theorem dX11_fillsRest_61 : decode cX11_fillsRest 61 = .ok (.iadd, 1) := by decide +kernel
theorem dX11_fillsRest_62 : decode cX11_fillsRest 62 = .ok (.aload_n 0, 1) := by decide +kernel
theorem dX11_fillsRest_63 : decode cX11_fillsRest 63 = .ok (.iload_n 2, 1) := by decide +kernel
theorem dX11_fillsRest_64 : decode cX11_fillsRest 64 = .ok (.invokevirtual 412, 3) := by decide +kernel
theorem dX11_fillsRest_67 : decode cX11_fillsRest 67 = .ok (.iastore, 1) := by decide +kernel
theorem dX11_fillsRest_68 : decode cX11_fillsRest 68 = .ok (.aload_n 0, 1) := by decide +kernel
theorem dX11_fillsRest_69 : decode cX11_fillsRest 69 = .ok (.invokevirtual 382, 3) := by decide +kernel
theorem dX11_fillsRest_72 : decode cX11_fillsRest 72 = .ok (.return_, 1) := by decide +kernel
theorem hd_X11_chargesIn : yX11_chargesIn.cls ≠ "java/lang/invoke/MethodHandle" ∧ yX11_chargesIn.cls ≠ "java/lang/invoke/VarHandle" ∧ (parseMethodDescriptor yX11_chargesIn.desc).map (fun d => d.parameters.length) = some 1 := ⟨by decide +kernel, by decide +kernel, by decide +kernel⟩
theorem hd_X11_hasThen : yX11_hasThen.cls ≠ "java/lang/invoke/MethodHandle" ∧ yX11_hasThen.cls ≠ "java/lang/invoke/VarHandle" ∧ (parseMethodDescriptor yX11_hasThen.desc).map (fun d => d.parameters.length) = some 1 := ⟨by decide +kernel, by decide +kernel, by decide +kernel⟩
set_option maxHeartbeats 4000000 in
set_option maxRecDepth 100000 in
theorem v_bestFor (l : Launch) (D : va_G) (K : Nat → ClassId) (ad : Nat → Nat) (z : TS) (o : Ok z) (x1 : Int32) (bx1 : iv 11 28 x1) (x2 : Int32) (bx2 : iv 0 8 x2) (x3 : Int32) (bx3 : iv 1 40 x3) (x4 : Int32) (wf : WFc z) : cI l yX11_bestFor cX11_bestFor 9 .int ({ frames := 9, cells := 0, slots := 0, locals := 212 }) D K ad z [.ref (ad 386), .int x1, .int x2, .int x3, .int x4] (fun r u => Ok u ∧ KM z u) := by
  refine t_enterI (by decide) (Nat.le_of_ble_eq_true rfl) rfl rfl ?_
  intro p e s m args below meth c A R Q H locs ls E hfr hlo RET G hl
  have E : mE p s m meth c cX11_bestFor args 9 RX11 D K A := E
  have hl : lv_has ls 9 [(0, .ref (ad 386)), (1, .int x1), (2, .int x2), (3, .int x3), (4, .int x4)] := hl
  refine lv_aload_n E.1 E.2.1 dX11_bestFor_0 rfl (lv_at hl 0 rfl) ?_
  refine t_vv E G hl (v_keeps l D K ad z o) 11 (rfl : ro 386 = 11) (by decide) rfl rfl 0 rfl mw_code_X11_keeps mw_ini_11 mw_ml_11_373 mw_inst_X11_keeps mw_sel_X11_keeps hd_X11_keeps ⟨Nat.le_trans (by decide) hfr, Nat.le_trans (by decide) hlo⟩ rfl rfl rfl (Nat.le_of_ble_eq_true rfl) dX11_bestFor_1 (fun zz1 H locs hp3 G => ?_)
  obtain ⟨oo4, kk5⟩ := hp3
  have kk6 : KM z zz1 := KF.tr KF.rf kk5
  refine lv_aload_n E.1 E.2.1 dX11_bestFor_4 rfl (lv_at hl 0 rfl) ?_
  refine t_get E G 11 20 (rfl : ro 386 = 11) (C := RX11) (T := TX11) (N := 37) rfl (by decide) (by decide) (by decide) mw_fl_11_39 (v := .ref (ad 396)) (fvl_o (n := 10) rfl) dX11_bestFor_5 ?_
  refine lv_iload_n E.1 E.2.1 dX11_bestFor_8 rfl (lv_at hl 1 rfl) ?_
  refine t_iald E G 54 (rfl : ro 396 = 54) (by decide) (by decide) rfl (n := 127) rfl (iv_vp bx1 (by decide) (by decide)) dX11_bestFor_9 ?_
  refine lv_topi (fun v7 e8 => ?_)
  refine lv_istore (lv' := [(5, .int v7), (0, .ref (ad 386)), (1, .int x1), (2, .int x2), (3, .int x3), (4, .int x4)]) E.1 E.2.1 dX11_bestFor_10 hl (by decide) rfl (fun ls hl => ?_)
  refine lv_aload_n E.1 E.2.1 dX11_bestFor_12 rfl (lv_at hl 1 rfl) ?_
  refine lv_iload_n E.1 E.2.1 dX11_bestFor_13 rfl (lv_at hl 4 rfl) ?_
  refine t_vi E G hl (v_chargesIn l D K ad zz1 oo4 x3 (iv_mono bx3 (by decide) (by decide)) (wf_ka wf kk6.2.1 rfl rfl rfl rfl)) 11 (rfl : ro 386 = 11) (by decide) rfl rfl 1 rfl mw_code_X11_chargesIn mw_ini_11 mw_ml_11_397 mw_inst_X11_chargesIn mw_sel_X11_chargesIn hd_X11_chargesIn ⟨Nat.le_trans (by decide) hfr, Nat.le_trans (by decide) hlo⟩ rfl rfl rfl (Nat.le_of_ble_eq_true rfl) dX11_bestFor_14 (fun r10 zz9 H locs hp11 G => ?_)
  obtain ⟨oo12, kk13⟩ := hp11
  have kk14 : KM z zz9 := KF.tr kk6 kk13
  refine lv_istore (lv' := [(6, .int r10), (5, .int v7), (0, .ref (ad 386)), (1, .int x1), (2, .int x2), (3, .int x3), (4, .int x4)]) E.1 E.2.1 dX11_bestFor_17 hl (by decide) rfl (fun ls hl => ?_)
  refine lv_iconst (v := 0) E.1 E.2.1 dX11_bestFor_19 (by decide) ?_
  refine lv_istore (lv' := [(7, .int 0), (6, .int r10), (5, .int v7), (0, .ref (ad 386)), (1, .int x1), (2, .int x2), (3, .int x3), (4, .int x4)]) E.1 E.2.1 dX11_bestFor_20 hl (by decide) rfl (fun ls hl => ?_)
  have LOOP22 : ∀ n : Nat, ∀ (zz18 : TS) (y15 : Int32) (y16 : Int32) (y17 : Int32) (H : Heap) (locs : List Loc) (ls : Array Slot), mG D A s H locs (wd K ad zz18) → Ok zz18 → KM z zz18 → iv 0 8 y15 → 8 < y15.toInt + (n : Int) → lv_has ls 9 [(7, .int y15), (6, .int y16), (5, .int y17), (0, .ref (ad 386)), (1, .int x1), (2, .int x2), (3, .int x3), (4, .int x4)] → W p l e R s m args below meth c H locs 0 0 Q (F0 m 22 ls []) := by
    intro n
    induction n with
    | zero =>
      intro zz18 y15 y16 y17 H locs ls G oo19 kk20 b22 m21 hl
      exact absurd m21 (by have := b22.1; have := b22.2; omega)
    | succ n ih22 =>
      intro zz18 y15 y16 y17 H locs ls G oo19 kk20 b22 m21 hl
      refine lv_iload E.1 E.2.1 dX11_bestFor_22 (lv_at hl 0 rfl) ?_
      refine lv_iload_n E.1 E.2.1 dX11_bestFor_24 rfl (lv_at hl 5 rfl) ?_
      refine lv_icmp_ge (tgt := 67) E.1 E.2.1 dX11_bestFor_25 (by decide) (fun c23 => ?_) (fun c23 => ?_)
      · skip
        refine lv_iload E.1 E.2.1 dX11_bestFor_67 (lv_at hl 7 rfl) ?_
        refine lv_if_ne (tgt := 77) E.1 E.2.1 dX11_bestFor_69 (by decide) (fun c24 => ?_) (fun c24 => ?_)
        · skip
          refine lv_iload E.1 E.2.1 dX11_bestFor_77 (lv_at hl 1 rfl) ?_
          exact RET G ⟨oo19, kk20⟩ rfl dX11_bestFor_79
        · skip
          have b25 : iv 0 0 x4 := iv_eq c24 (iv_lit (lo := 0) (hi := 0) 0 (by decide) (by decide))
          refine lv_iload E.1 E.2.1 dX11_bestFor_72 (lv_at hl 2 rfl) ?_
          refine lv_goto (tgt := 79) E.1 E.2.1 dX11_bestFor_74 (by decide) ?_
          exact RET G ⟨oo19, kk20⟩ rfl dX11_bestFor_79
      · skip
        have b26 : iv 0 7 y15 := lt_l (Int32.not_le.mp c23) b22 bx2 (by decide)
        have b27 : iv 1 8 x2 := lt_r (Int32.not_le.mp c23) b22 bx2 (by decide)
        refine lv_aload_n E.1 E.2.1 dX11_bestFor_28 rfl (lv_at hl 3 rfl) ?_
        refine t_get E G 11 20 (rfl : ro 386 = 11) (C := RX11) (T := TX11) (N := 37) rfl (by decide) (by decide) (by decide) mw_fl_11_39 (v := .ref (ad 396)) (fvl_o (n := 10) rfl) dX11_bestFor_29 ?_
        refine lv_iload_n E.1 E.2.1 dX11_bestFor_32 rfl (lv_at hl 4 rfl) ?_
        refine lv_iload E.1 E.2.1 dX11_bestFor_33 (lv_at hl 0 rfl) ?_
        refine t_iast E G 54 (rfl : ro 396 = 54) (by decide) (by decide) rfl (n := 127) rfl (iv_vp bx1 (by decide) (by decide)) dX11_bestFor_35 (fun H locs G => ?_)
        obtain ⟨zz28, G, oo29, kk30⟩ : ∃ u : TS, mG D A s H locs (wd K ad u) ∧ Ok u ∧ KM z u := ⟨_, G, ok_u oo19 54 (rfl : ro 396 = 54) (wr1 0 1 11 28 b26 bx1 (by omega) (by decide +kernel)) (by decide), KF.tr kk20 (KF_r 54 (rfl : ro 396 = 54) (by decide))⟩
        refine lv_aload_n E.1 E.2.1 dX11_bestFor_36 rfl (lv_at hl 3 rfl) ?_
        refine lv_iload_n E.1 E.2.1 dX11_bestFor_37 rfl (lv_at hl 6 rfl) ?_
        refine t_vi E G hl (v_chargesIn l D K ad zz28 oo29 x3 (iv_mono bx3 (by decide) (by decide)) (wf_ka wf kk30.2.1 rfl rfl rfl rfl)) 11 (rfl : ro 386 = 11) (by decide) rfl rfl 1 rfl mw_code_X11_chargesIn mw_ini_11 mw_ml_11_397 mw_inst_X11_chargesIn mw_sel_X11_chargesIn hd_X11_chargesIn ⟨Nat.le_trans (by decide) hfr, Nat.le_trans (by decide) hlo⟩ rfl rfl rfl (Nat.le_of_ble_eq_true rfl) dX11_bestFor_38 (fun r32 zz31 H locs hp33 G => ?_)
        obtain ⟨oo34, kk35⟩ := hp33
        have kk36 : KM z zz31 := KF.tr kk30 kk35
        refine lv_istore (lv' := [(8, .int r32), (7, .int y15), (6, .int y16), (5, .int y17), (0, .ref (ad 386)), (1, .int x1), (2, .int x2), (3, .int x3), (4, .int x4)]) E.1 E.2.1 dX11_bestFor_41 hl (by decide) rfl (fun ls hl => ?_)
        refine lv_iload E.1 E.2.1 dX11_bestFor_43 (lv_at hl 0 rfl) ?_
        refine lv_iload E.1 E.2.1 dX11_bestFor_45 (lv_at hl 2 rfl) ?_
        refine lv_icmp_gt (tgt := 53) E.1 E.2.1 dX11_bestFor_47 (by decide) (fun c37 => ?_) (fun c37 => ?_)
        · skip
          have b38 : iv (-2147483648) 2147483646 y16 := lt_l c37 (iv_full y16) (iv_full r32) (by decide)
          have b39 : iv (-2147483647) 2147483647 r32 := lt_r c37 (iv_full y16) (iv_full r32) (by decide)
          refine lv_iload E.1 E.2.1 dX11_bestFor_53 (lv_at hl 1 rfl) ?_
          refine lv_istore (lv' := [(5, .int y15), (8, .int r32), (7, .int y15), (6, .int y16), (0, .ref (ad 386)), (1, .int x1), (2, .int x2), (3, .int x3), (4, .int x4)]) E.1 E.2.1 dX11_bestFor_55 hl (by decide) rfl (fun ls hl => ?_)
          refine lv_iload E.1 E.2.1 dX11_bestFor_57 (lv_at hl 1 rfl) ?_
          refine lv_istore (lv' := [(6, .int r32), (5, .int y15), (8, .int r32), (7, .int y15), (0, .ref (ad 386)), (1, .int x1), (2, .int x2), (3, .int x3), (4, .int x4)]) E.1 E.2.1 dX11_bestFor_59 hl (by decide) rfl (fun ls hl => ?_)
          obtain ⟨v40, e41⟩ : ∃ w : Int32, w = y15 + (1 : Int32) := ⟨_, rfl⟩
          refine lv_iinc (v := v40) (lv' := [(7, .int v40), (6, .int r32), (5, .int y15), (8, .int r32), (0, .ref (ad 386)), (1, .int x1), (2, .int x2), (3, .int x3), (4, .int x4)]) E.1 E.2.1 dX11_bestFor_61 hl (k := 3) rfl (by rw [e41]; rfl) (by decide) rfl (fun ls hl => ?_)
          have b42 : iv 1 8 v40 := by rw [e41]; exact iv_add b26 (iv_lit (lo := 1) (hi := 1) 1 (by decide) (by decide)) (by decide) (by decide) (by decide) (by decide)
          have t43 : v40.toInt = y15.toInt + 1 := by rw [e41]; exact ti_addc 1 (by decide) b26 (by decide) (by decide)
          refine lv_goto (tgt := 22) E.1 E.2.1 dX11_bestFor_64 (by decide) ?_
          exact ih22 zz31 v40 r32 y15 H locs ls G oo34 kk36 (iv_mono b42 (by decide) (by decide)) (by have := t43; have := m21; omega) (lv_sub hl [0, 1, 2, 4, 5, 6, 7, 8] rfl)
        · skip
          refine lv_goto (tgt := 61) E.1 E.2.1 dX11_bestFor_50 (by decide) ?_
          obtain ⟨v44, e45⟩ : ∃ w : Int32, w = y15 + (1 : Int32) := ⟨_, rfl⟩
          refine lv_iinc (v := v44) (lv' := [(7, .int v44), (8, .int r32), (6, .int y16), (5, .int y17), (0, .ref (ad 386)), (1, .int x1), (2, .int x2), (3, .int x3), (4, .int x4)]) E.1 E.2.1 dX11_bestFor_61 hl (k := 1) rfl (by rw [e45]; rfl) (by decide) rfl (fun ls hl => ?_)
          have b46 : iv 1 8 v44 := by rw [e45]; exact iv_add b26 (iv_lit (lo := 1) (hi := 1) 1 (by decide) (by decide)) (by decide) (by decide) (by decide) (by decide)
          have t47 : v44.toInt = y15.toInt + 1 := by rw [e45]; exact ti_addc 1 (by decide) b26 (by decide) (by decide)
          refine lv_goto (tgt := 22) E.1 E.2.1 dX11_bestFor_64 (by decide) ?_
          exact ih22 zz31 v44 y16 y17 H locs ls G oo34 kk36 (iv_mono b46 (by decide) (by decide)) (by have := t47; have := m21; omega) (lv_sub hl [0, 2, 3, 4, 5, 6, 7, 8] rfl)
  exact LOOP22 9 zz9 0 r10 v7 H locs ls G oo12 kk14 (iv_mono (iv_lit (lo := 0) (hi := 0) 0 (by decide) (by decide)) (by decide) (by decide)) (by have := (iv_lit (lo := 0) (hi := 0) 0 (by decide) (by decide)).1; omega) (lv_sub hl [0, 1, 2, 3, 4, 5, 6, 7] rfl)
set_option maxHeartbeats 4000000 in
set_option maxRecDepth 100000 in
theorem v_fillsRest (l : Launch) (D : va_G) (K : Nat → ClassId) (ad : Nat → Nat) (z : TS) (o : Ok z) (x1 : Int32) (bx1 : iv 0 5 x1) (x2 : Int32) (bx2 : iv 0 5 x2) (x3 : Int32) (bx3 : iv 0 7 x3) (x4 : Int32) (bx4 : iv 0 7 x4) (x5 : Int32) (bx5 : iv 1 20 x5) (wf : WFc z) : cV l yX11_fillsRest cX11_fillsRest 7 ({ frames := 8, cells := 0, slots := 0, locals := 190 }) D K ad z [.ref (ad 386), .int x1, .int x2, .int x3, .int x4, .int x5] (fun u => Ok u ∧ KM z u) := by
  refine t_enterV (by decide) (Nat.le_of_ble_eq_true rfl) rfl rfl ?_
  intro p e s m args below meth c A R Q H locs ls E hfr hlo RET G hl
  have E : mE p s m meth c cX11_fillsRest args 7 RX11 D K A := E
  have hl : lv_has ls 7 [(0, .ref (ad 386)), (1, .int x1), (2, .int x2), (3, .int x3), (4, .int x4), (5, .int x5)] := hl
  refine lv_iconst (v := 2) E.1 E.2.1 dX11_fillsRest_0 (by decide) ?_
  refine lv_bipush (v := 8) E.1 E.2.1 dX11_fillsRest_1 (by decide) ?_
  refine lv_iload_n E.1 E.2.1 dX11_fillsRest_3 rfl (lv_at hl 3 rfl) ?_
  refine lv_imul E.1 E.2.1 dX11_fillsRest_4 ?_
  refine lv_topi (fun v1 e2 => ?_)
  have b3 : iv 0 56 v1 := by rw [e2]; exact iv_mulc' bx3 8 (by decide) (by decide) (by decide) (by decide) (by decide) (by decide)
  have l4 : v1.toInt = 0 + 8 * x3.toInt := (show v1.toInt = 8 * x3.toInt by rw [e2]; exact ti_cmul 8 (by decide) (by decide) bx3 (by decide) (by decide)).trans (by omega)
  refine lv_iload E.1 E.2.1 dX11_fillsRest_5 (lv_at hl 4 rfl) ?_
  refine lv_iadd E.1 E.2.1 dX11_fillsRest_7 ?_
  refine lv_topi (fun v5 e6 => ?_)
  have b7 : iv 0 63 v5 := by rw [e6]; exact iv_add b3 bx4 (by decide) (by decide) (by decide) (by decide)
  have l8 : v5.toInt = 0 + 8 * x3.toInt + 1 * x4.toInt := (show v5.toInt = v1.toInt + x4.toInt by rw [e6]; exact ti_addv b3 bx4 (by decide) (by decide)).trans (by omega)
  refine lv_imul E.1 E.2.1 dX11_fillsRest_8 ?_
  refine lv_topi (fun v9 e10 => ?_)
  have b11 : iv 0 126 v9 := by rw [e10]; exact iv_mulc' b7 2 (by decide) (by decide) (by decide) (by decide) (by decide) (by decide)
  have l12 : v9.toInt = 0 + 16 * x3.toInt + 2 * x4.toInt := (show v9.toInt = 2 * v5.toInt by rw [e10]; exact ti_cmul 2 (by decide) (by decide) b7 (by decide) (by decide)).trans (by omega)
  refine lv_istore (lv' := [(6, .int v9), (0, .ref (ad 386)), (1, .int x1), (2, .int x2), (3, .int x3), (4, .int x4), (5, .int x5)]) E.1 E.2.1 dX11_fillsRest_9 hl (by decide) rfl (fun ls hl => ?_)
  refine lv_aload_n E.1 E.2.1 dX11_fillsRest_11 rfl (lv_at hl 1 rfl) ?_
  refine t_get E G 11 20 (rfl : ro 386 = 11) (C := RX11) (T := TX11) (N := 37) rfl (by decide) (by decide) (by decide) mw_fl_11_39 (v := .ref (ad 396)) (fvl_o (n := 10) rfl) dX11_fillsRest_12 ?_
  refine lv_bipush (v := 11) E.1 E.2.1 dX11_fillsRest_15 (by decide) ?_
  refine lv_iconst (v := 3) E.1 E.2.1 dX11_fillsRest_17 (by decide) ?_
  refine lv_iload_n E.1 E.2.1 dX11_fillsRest_18 rfl (lv_at hl 2 rfl) ?_
  refine lv_imul E.1 E.2.1 dX11_fillsRest_19 ?_
  refine lv_topi (fun v13 e14 => ?_)
  have b15 : iv 0 15 v13 := by rw [e14]; exact iv_mulc' bx1 3 (by decide) (by decide) (by decide) (by decide) (by decide) (by decide)
  have l16 : v13.toInt = 0 + 3 * x1.toInt := (show v13.toInt = 3 * x1.toInt by rw [e14]; exact ti_cmul 3 (by decide) (by decide) bx1 (by decide) (by decide)).trans (by omega)
  refine lv_iadd E.1 E.2.1 dX11_fillsRest_20 ?_
  refine lv_topi (fun v17 e18 => ?_)
  have b19 : iv 11 26 v17 := by rw [e18]; exact iv_add (iv_lit (lo := 11) (hi := 11) 11 (by decide) (by decide)) b15 (by decide) (by decide) (by decide) (by decide)
  have l20 : v17.toInt = 11 + 3 * x1.toInt := (show v17.toInt = 11 + v13.toInt by rw [e18]; exact ti_cadd 11 (by decide) b15 (by decide) (by decide)).trans (by omega)
  refine lv_iload_n E.1 E.2.1 dX11_fillsRest_21 rfl (lv_at hl 4 rfl) ?_
  refine t_iast E G 54 (rfl : ro 396 = 54) (by decide) (by decide) rfl (n := 127) rfl (iv_vp b19 (by decide) (by decide)) dX11_fillsRest_22 (fun H locs G => ?_)
  obtain ⟨zz21, G, oo22, kk23⟩ : ∃ u : TS, mG D A s H locs (wd K ad u) ∧ Ok u ∧ KM z u := ⟨_, G, ok_u o 54 (rfl : ro 396 = 54) (wr1 11 3 0 5 bx3 bx1 (l20.trans (by omega)) (by decide +kernel)) (by decide), KF.tr KF.rf (KF_r 54 (rfl : ro 396 = 54) (by decide))⟩
  refine lv_aload_n E.1 E.2.1 dX11_fillsRest_23 rfl (lv_at hl 1 rfl) ?_
  refine t_get E G 11 20 (rfl : ro 386 = 11) (C := RX11) (T := TX11) (N := 37) rfl (by decide) (by decide) (by decide) mw_fl_11_39 (v := .ref (ad 396)) (fvl_o (n := 10) rfl) dX11_fillsRest_24 ?_
  refine lv_bipush (v := 11) E.1 E.2.1 dX11_fillsRest_27 (by decide) ?_
  refine lv_iconst (v := 3) E.1 E.2.1 dX11_fillsRest_29 (by decide) ?_
  refine lv_iload_n E.1 E.2.1 dX11_fillsRest_30 rfl (lv_at hl 3 rfl) ?_
  refine lv_imul E.1 E.2.1 dX11_fillsRest_31 ?_
  refine lv_topi (fun v24 e25 => ?_)
  have b26 : iv 0 15 v24 := by rw [e25]; exact iv_mulc' bx2 3 (by decide) (by decide) (by decide) (by decide) (by decide) (by decide)
  have l27 : v24.toInt = 0 + 3 * x2.toInt := (show v24.toInt = 3 * x2.toInt by rw [e25]; exact ti_cmul 3 (by decide) (by decide) bx2 (by decide) (by decide)).trans (by omega)
  refine lv_iadd E.1 E.2.1 dX11_fillsRest_32 ?_
  refine lv_topi (fun v28 e29 => ?_)
  have b30 : iv 11 26 v28 := by rw [e29]; exact iv_add (iv_lit (lo := 11) (hi := 11) 11 (by decide) (by decide)) b26 (by decide) (by decide) (by decide) (by decide)
  have l31 : v28.toInt = 11 + 3 * x2.toInt := (show v28.toInt = 11 + v24.toInt by rw [e29]; exact ti_cadd 11 (by decide) b26 (by decide) (by decide)).trans (by omega)
  refine lv_iload E.1 E.2.1 dX11_fillsRest_33 (lv_at hl 5 rfl) ?_
  refine t_iast E G 54 (rfl : ro 396 = 54) (by decide) (by decide) rfl (n := 127) rfl (iv_vp b30 (by decide) (by decide)) dX11_fillsRest_35 (fun H locs G => ?_)
  obtain ⟨zz32, G, oo33, kk34⟩ : ∃ u : TS, mG D A s H locs (wd K ad u) ∧ Ok u ∧ KM z u := ⟨_, G, ok_u oo22 54 (rfl : ro 396 = 54) (wr1 11 3 0 5 bx4 bx2 (l31.trans (by omega)) (by decide +kernel)) (by decide), KF.tr kk23 (KF_r 54 (rfl : ro 396 = 54) (by decide))⟩
  refine lv_aload_n E.1 E.2.1 dX11_fillsRest_36 rfl (lv_at hl 1 rfl) ?_
  refine lv_iload E.1 E.2.1 dX11_fillsRest_37 (lv_at hl 6 rfl) ?_
  refine t_vv E G hl (v_passesAll l D K ad zz32 oo33 x5 (iv_mono bx5 (by decide) (by decide)) (wf_ka wf kk34.2.1 rfl rfl rfl rfl)) 11 (rfl : ro 386 = 11) (by decide) rfl rfl 1 rfl mw_code_X11_passesAll mw_ini_11 mw_ml_11_376 mw_inst_X11_passesAll mw_sel_X11_passesAll hd_X11_passesAll ⟨Nat.le_trans (by decide) hfr, Nat.le_trans (by decide) hlo⟩ rfl rfl rfl (Nat.le_of_ble_eq_true rfl) dX11_fillsRest_39 (fun zz35 H locs hp37 G => ?_)
  obtain ⟨oo38, kk39⟩ := hp37
  have kk40 : KM z zz35 := KF.tr kk34 kk39
  refine lv_aload_n E.1 E.2.1 dX11_fillsRest_42 rfl (lv_at hl 1 rfl) ?_
  refine t_get E G 11 28 (rfl : ro 386 = 11) (C := RX11) (T := TX11) (N := 37) rfl (by decide) (by decide) (by decide) mw_fl_11_58 (v := .ref (ad 401)) (fvl_o (n := 15) rfl) dX11_fillsRest_43 ?_
  refine lv_iload E.1 E.2.1 dX11_fillsRest_46 (lv_at hl 0 rfl) ?_
  refine lv_aload_n E.1 E.2.1 dX11_fillsRest_48 rfl (lv_at hl 1 rfl) ?_
  refine lv_iload_n E.1 E.2.1 dX11_fillsRest_49 rfl (lv_at hl 2 rfl) ?_
  refine t_vi E G hl (v_hasThen l D K ad zz35 oo38 x1 (iv_mono bx1 (by decide) (by decide))) 11 (rfl : ro 386 = 11) (by decide) rfl rfl 1 rfl mw_code_X11_hasThen mw_ini_11 mw_ml_11_412 mw_inst_X11_hasThen mw_sel_X11_hasThen hd_X11_hasThen ⟨Nat.le_trans (by decide) hfr, Nat.le_trans (by decide) hlo⟩ rfl rfl rfl (Nat.le_of_ble_eq_true rfl) dX11_fillsRest_50 (fun r42 zz41 H locs hp43 G => ?_)
  have hz44 := hp43
  rw [hz44] at G
  refine t_iast E G 59 (rfl : ro 401 = 59) (by decide) (by decide) rfl (n := 128) rfl (iv_vp b11 (by decide) (by decide)) dX11_fillsRest_53 (fun H locs G => ?_)
  obtain ⟨zz45, G, oo46, kk47⟩ : ∃ u : TS, mG D A s H locs (wd K ad u) ∧ Ok u ∧ KM z u := ⟨_, G, ok_u oo38 59 (rfl : ro 401 = 59) (wr_u (by decide) (iv_mono (iv_full r42) (by decide) (by decide))) (by decide), KF.tr kk40 (KF_r 59 (rfl : ro 401 = 59) (by decide))⟩
  refine lv_aload_n E.1 E.2.1 dX11_fillsRest_54 rfl (lv_at hl 1 rfl) ?_
  refine t_get E G 11 28 (rfl : ro 386 = 11) (C := RX11) (T := TX11) (N := 37) rfl (by decide) (by decide) (by decide) mw_fl_11_58 (v := .ref (ad 401)) (fvl_o (n := 15) rfl) dX11_fillsRest_55 ?_
  refine lv_iload E.1 E.2.1 dX11_fillsRest_58 (lv_at hl 0 rfl) ?_
  refine lv_iconst (v := 1) E.1 E.2.1 dX11_fillsRest_60 (by decide) ?_
  refine lv_iadd E.1 E.2.1 dX11_fillsRest_61 ?_
  refine lv_topi (fun v48 e49 => ?_)
  have b50 : iv 1 127 v48 := by rw [e49]; exact iv_add b11 (iv_lit (lo := 1) (hi := 1) 1 (by decide) (by decide)) (by decide) (by decide) (by decide) (by decide)
  have l51 : v48.toInt = 1 + 16 * x3.toInt + 2 * x4.toInt := (show v48.toInt = v9.toInt + 1 by rw [e49]; exact ti_addc 1 (by decide) b11 (by decide) (by decide)).trans (by omega)
  refine lv_aload_n E.1 E.2.1 dX11_fillsRest_62 rfl (lv_at hl 1 rfl) ?_
  refine lv_iload_n E.1 E.2.1 dX11_fillsRest_63 rfl (lv_at hl 3 rfl) ?_
  refine t_vi E G hl (v_hasThen l D K ad zz45 oo46 x2 (iv_mono bx2 (by decide) (by decide))) 11 (rfl : ro 386 = 11) (by decide) rfl rfl 1 rfl mw_code_X11_hasThen mw_ini_11 mw_ml_11_412 mw_inst_X11_hasThen mw_sel_X11_hasThen hd_X11_hasThen ⟨Nat.le_trans (by decide) hfr, Nat.le_trans (by decide) hlo⟩ rfl rfl rfl (Nat.le_of_ble_eq_true rfl) dX11_fillsRest_64 (fun r53 zz52 H locs hp54 G => ?_)
  have hz55 := hp54
  rw [hz55] at G
  refine t_iast E G 59 (rfl : ro 401 = 59) (by decide) (by decide) rfl (n := 128) rfl (iv_vp b50 (by decide) (by decide)) dX11_fillsRest_67 (fun H locs G => ?_)
  obtain ⟨zz56, G, oo57, kk58⟩ : ∃ u : TS, mG D A s H locs (wd K ad u) ∧ Ok u ∧ KM z u := ⟨_, G, ok_u oo46 59 (rfl : ro 401 = 59) (wr_u (by decide) (iv_mono (iv_full r53) (by decide) (by decide))) (by decide), KF.tr kk47 (KF_r 59 (rfl : ro 401 = 59) (by decide))⟩
  refine lv_aload_n E.1 E.2.1 dX11_fillsRest_68 rfl (lv_at hl 1 rfl) ?_
  refine t_vv E G hl (v_laysBack l D K ad zz56 oo57) 11 (rfl : ro 386 = 11) (by decide) rfl rfl 0 rfl mw_code_X11_laysBack mw_ini_11 mw_ml_11_382 mw_inst_X11_laysBack mw_sel_X11_laysBack hd_X11_laysBack ⟨Nat.le_trans (by decide) hfr, Nat.le_trans (by decide) hlo⟩ rfl rfl rfl (Nat.le_of_ble_eq_true rfl) dX11_fillsRest_69 (fun zz59 H locs hp61 G => ?_)
  obtain ⟨oo62, kk63⟩ := hp61
  have kk64 : KM z zz59 := KF.tr kk58 kk63
  exact RET G ⟨oo62, kk64⟩ dX11_fillsRest_72
