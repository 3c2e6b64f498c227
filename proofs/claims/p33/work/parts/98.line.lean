theorem mw_code_X11_isLureHere : (Cond.code yX11_isLureHere cX11_isLureHere 3 (some .boolean) : Cond) ∈ cw := cw_of (List.mem_append_right _ (List.mem_append_right _ (List.mem_append_right _ (List.mem_append_right _ (List.mem_append_right _ (List.mem_append_right _ (List.mem_append_left _ (List.mem_of_getElem? (i := 63) rfl)))))))) (by decide +kernel)
theorem mw_code_X11_isTownHere : (Cond.code yX11_isTownHere cX11_isTownHere 2 (some .boolean) : Cond) ∈ cw := cw_of (List.mem_append_right _ (List.mem_append_right _ (List.mem_append_right _ (List.mem_append_right _ (List.mem_append_right _ (List.mem_append_right _ (List.mem_append_left _ (List.mem_of_getElem? (i := 36) rfl)))))))) (by decide +kernel)
theorem mw_code_X11_isWalkerHere : (Cond.code yX11_isWalkerHere cX11_isWalkerHere 3 (some .boolean) : Cond) ∈ cw := cw_of (List.mem_append_right _ (List.mem_append_right _ (List.mem_append_right _ (List.mem_append_right _ (List.mem_append_right _ (List.mem_append_right _ (List.mem_append_left _ (List.mem_of_getElem? (i := 67) rfl)))))))) (by decide +kernel)
theorem mw_code_X11_isWayHere : (Cond.code yX11_isWayHere cX11_isWayHere 3 (some .boolean) : Cond) ∈ cw := cw_of (List.mem_append_right _ (List.mem_append_right _ (List.mem_append_right _ (List.mem_append_right _ (List.mem_append_right _ (List.mem_append_right _ (List.mem_append_left _ (List.mem_of_getElem? (i := 59) rfl)))))))) (by decide +kernel)
theorem mw_inst_X11_isLureHere : (Cond.instanceMethod yX11_isLureHere : Cond) ∈ cw := cw_of (List.mem_append_right _ (List.mem_append_right _ (List.mem_append_right _ (List.mem_append_right _ (List.mem_append_right _ (List.mem_append_right _ (List.mem_append_left _ (List.mem_of_getElem? (i := 62) (by decide +kernel))))))))) (by decide +kernel)
theorem mw_inst_X11_isTownHere : (Cond.instanceMethod yX11_isTownHere : Cond) ∈ cw := cw_of (List.mem_append_right _ (List.mem_append_right _ (List.mem_append_right _ (List.mem_append_right _ (List.mem_append_right _ (List.mem_append_right _ (List.mem_append_left _ (List.mem_of_getElem? (i := 35) (by decide +kernel))))))))) (by decide +kernel)
theorem mw_inst_X11_isWalkerHere : (Cond.instanceMethod yX11_isWalkerHere : Cond) ∈ cw := cw_of (List.mem_append_right _ (List.mem_append_right _ (List.mem_append_right _ (List.mem_append_right _ (List.mem_append_right _ (List.mem_append_right _ (List.mem_append_left _ (List.mem_of_getElem? (i := 66) (by decide +kernel))))))))) (by decide +kernel)
theorem mw_inst_X11_isWayHere : (Cond.instanceMethod yX11_isWayHere : Cond) ∈ cw := cw_of (List.mem_append_right _ (List.mem_append_right _ (List.mem_append_right _ (List.mem_append_right _ (List.mem_append_right _ (List.mem_append_right _ (List.mem_append_left _ (List.mem_of_getElem? (i := 58) (by decide +kernel))))))))) (by decide +kernel)
theorem mw_ml_11_225 : (Cond.methodLink RX11 225 yX11_isTownHere : Cond) ∈ cw := cw_of (List.mem_append_right _ (List.mem_append_right _ (List.mem_append_right _ (List.mem_append_right _ (List.mem_append_right _ (List.mem_append_right _ (List.mem_append_left _ (List.mem_of_getElem? (i := 33) (by decide +kernel))))))))) (by decide +kernel)
theorem mw_ml_11_230 : (Cond.methodLink RX11 230 yX11_isWayHere : Cond) ∈ cw := cw_of (List.mem_append_right _ (List.mem_append_right _ (List.mem_append_right _ (List.mem_append_right _ (List.mem_append_right _ (List.mem_append_right _ (List.mem_append_left _ (List.mem_of_getElem? (i := 56) (by decide +kernel))))))))) (by decide +kernel)
theorem mw_ml_11_235 : (Cond.methodLink RX11 235 yX11_isLureHere : Cond) ∈ cw := cw_of (List.mem_append_right _ (List.mem_append_right _ (List.mem_append_right _ (List.mem_append_right _ (List.mem_append_right _ (List.mem_append_right _ (List.mem_append_left _ (List.mem_of_getElem? (i := 60) (by decide +kernel))))))))) (by decide +kernel)
theorem mw_ml_11_238 : (Cond.methodLink RX11 238 yX11_isWalkerHere : Cond) ∈ cw := cw_of (List.mem_append_right _ (List.mem_append_right _ (List.mem_append_right _ (List.mem_append_right _ (List.mem_append_right _ (List.mem_append_right _ (List.mem_append_left _ (List.mem_of_getElem? (i := 64) (by decide +kernel))))))))) (by decide +kernel)
theorem mw_sel_X11_isLureHere : (Cond.selects RX11 yX11_isLureHere yX11_isLureHere : Cond) ∈ cw := cw_of (List.mem_append_left _ (List.mem_of_getElem? (i := 62) (by decide +kernel))) (by decide +kernel)
theorem mw_sel_X11_isTownHere : (Cond.selects RX11 yX11_isTownHere yX11_isTownHere : Cond) ∈ cw := cw_of (List.mem_append_left _ (List.mem_of_getElem? (i := 56) (by decide +kernel))) (by decide +kernel)
theorem mw_sel_X11_isWalkerHere : (Cond.selects RX11 yX11_isWalkerHere yX11_isWalkerHere : Cond) ∈ cw := cw_of (List.mem_append_left _ (List.mem_of_getElem? (i := 63) (by decide +kernel))) (by decide +kernel)
theorem mw_sel_X11_isWayHere : (Cond.selects RX11 yX11_isWayHere yX11_isWayHere : Cond) ∈ cw := cw_of (List.mem_append_left _ (List.mem_of_getElem? (i := 61) (by decide +kernel))) (by decide +kernel)
theorem dX11_townLineHere_0 : decode cX11_townLineHere 0 = .ok (.aload_n 0, 1) := by decide +kernel
theorem dX11_townLineHere_1 : decode cX11_townLineHere 1 = .ok (.ldc2_w 223, 3) := by decide +kernel
theorem dX11_townLineHere_4 : decode cX11_townLineHere 4 = .ok (.invokevirtual 104, 3) := by decide +kernel
theorem dX11_townLineHere_7 : decode cX11_townLineHere 7 = .ok (.ifCond .eq 9, 3) := by decide +kernel
theorem dX11_townLineHere_10 : decode cX11_townLineHere 10 = .ok (.aload_n 0, 1) := by decide +kernel
theorem dX11_townLineHere_11 : decode cX11_townLineHere 11 = .ok (.iload_n 1, 1) := by decide +kernel
theorem dX11_townLineHere_12 : decode cX11_townLineHere 12 = .ok (.invokevirtual 225, 3) := by decide +kernel
theorem dX11_townLineHere_15 : decode cX11_townLineHere 15 = .ok (.ireturn, 1) := by decide +kernel
theorem dX11_townLineHere_16 : decode cX11_townLineHere 16 = .ok (.aload_n 0, 1) := by decide +kernel
theorem dX11_townLineHere_17 : decode cX11_townLineHere 17 = .ok (.getfield 26, 3) := by decide +kernel
theorem dX11_townLineHere_20 : decode cX11_townLineHere 20 = .ok (.iconst 0, 1) := by decide +kernel
theorem dX11_townLineHere_21 : decode cX11_townLineHere 21 = .ok (.iaload, 1) := by decide +kernel
theorem dX11_townLineHere_22 : decode cX11_townLineHere 22 = .ok (.ifCond .ne 10, 3) := by decide +kernel
theorem dX11_townLineHere_25 : decode cX11_townLineHere 25 = .ok (.aload_n 0, 1) := by decide +kernel
theorem dX11_townLineHere_26 : decode cX11_townLineHere 26 = .ok (.iconst 4, 1) := by decide +kernel
theorem dX11_townLineHere_27 : decode cX11_townLineHere 27 = .ok (.iload_n 1, 1) := by decide +kernel
theorem dX11_townLineHere_28 : decode cX11_townLineHere 28 = .ok (.invokevirtual 114, 3) := by decide +kernel
theorem dX11_townLineHere_31 : decode cX11_townLineHere 31 = .ok (.ireturn, 1) := by decide +kernel
theorem dX11_townLineHere_32 : decode cX11_townLineHere 32 = .ok (.aload_n 0, 1) := by decide +kernel
theorem dX11_townLineHere_33 : decode cX11_townLineHere 33 = .ok (.ldc2_w 228, 3) := by decide +kernel
theorem dX11_townLineHere_36 : decode cX11_townLineHere 36 = .ok (.invokevirtual 104, 3) := by decide +kernel
theorem dX11_townLineHere_39 : decode cX11_townLineHere 39 = .ok (.ifCond .eq 8, 3) := by decide +kernel
theorem dX11_townLineHere_42 : decode cX11_townLineHere 42 = .ok (.aload_n 0, 1) := by decide +kernel
theorem dX11_townLineHere_43 : decode cX11_townLineHere 43 = .ok (.invokevirtual 230, 3) := by decide +kernel
theorem dX11_townLineHere_46 : decode cX11_townLineHere 46 = .ok (.ireturn, 1) := by decide +kernel
theorem dX11_townLineHere_47 : decode cX11_townLineHere 47 = .ok (.aload_n 0, 1) := by decide +kernel
theorem dX11_townLineHere_48 : decode cX11_townLineHere 48 = .ok (.ldc2_w 233, 3) := by decide +kernel
theorem dX11_townLineHere_51 : decode cX11_townLineHere 51 = .ok (.invokevirtual 104, 3) := by decide +kernel
theorem dX11_townLineHere_54 : decode cX11_townLineHere 54 = .ok (.ifCond .eq 11, 3) := by decide +kernel
theorem dX11_townLineHere_57 : decode cX11_townLineHere 57 = .ok (.aload_n 0, 1) := by decide +kernel
theorem dX11_townLineHere_58 : decode cX11_townLineHere 58 = .ok (.iload_n 1, 1) := by decide +kernel
theorem dX11_townLineHere_59 : decode cX11_townLineHere 59 = .ok (.invokevirtual 235, 3) := by decide +kernel
theorem dX11_townLineHere_62 : decode cX11_townLineHere 62 = .ok (.goto 8, 3) := by decide +kernel
theorem dX11_townLineHere_65 : decode cX11_townLineHere 65 = .ok (.aload_n 0, 1) := by decide +kernel
theorem dX11_townLineHere_66 : decode cX11_townLineHere 66 = .ok (.iload_n 1, 1) := by decide +kernel
theorem dX11_townLineHere_67 : decode cX11_townLineHere 67 = .ok (.invokevirtual 238, 3) := by decide +kernel
theorem dX11_townLineHere_70 : decode cX11_townLineHere 70 = .ok (.ireturn, 1) := by decide +kernel
theorem hd_X11_isLureHere : yX11_isLureHere.cls ≠ "java/lang/invoke/MethodHandle" ∧ yX11_isLureHere.cls ≠ "java/lang/invoke/VarHandle" ∧ (parseMethodDescriptor yX11_isLureHere.desc).map (fun d => d.parameters.length) = some 1 := ⟨by decide +kernel, by decide +kernel, by decide +kernel⟩
theorem hd_X11_isTownHere : yX11_isTownHere.cls ≠ "java/lang/invoke/MethodHandle" ∧ yX11_isTownHere.cls ≠ "java/lang/invoke/VarHandle" ∧ (parseMethodDescriptor yX11_isTownHere.desc).map (fun d => d.parameters.length) = some 1 := ⟨by decide +kernel, by decide +kernel, by decide +kernel⟩
theorem hd_X11_isWalkerHere : yX11_isWalkerHere.cls ≠ "java/lang/invoke/MethodHandle" ∧ yX11_isWalkerHere.cls ≠ "java/lang/invoke/VarHandle" ∧ (parseMethodDescriptor yX11_isWalkerHere.desc).map (fun d => d.parameters.length) = some 1 := ⟨by decide +kernel, by decide +kernel, by decide +kernel⟩
theorem hd_X11_isWayHere : yX11_isWayHere.cls ≠ "java/lang/invoke/MethodHandle" ∧ yX11_isWayHere.cls ≠ "java/lang/invoke/VarHandle" ∧ (parseMethodDescriptor yX11_isWayHere.desc).map (fun d => d.parameters.length) = some 0 := ⟨by decide +kernel, by decide +kernel, by decide +kernel⟩
set_option maxHeartbeats 4000000 in
set_option maxRecDepth 100000 in
theorem v_townLineHere (l : Launch) (D : va_G) (K : Nat → ClassId) (ad : Nat → Nat) (z : TS) (o : Ok z) (x1 : Int32) (hn : NXx z) : cI l yX11_townLineHere cX11_townLineHere 2 .boolean ({ frames := 4, cells := 0, slots := 0, locals := 94 }) D K ad z [.ref (ad 386), .int x1] (fun r u => Ok u ∧ KTn z u ∧ iv 0 1 r ∧ (Scx z u)) := by
  have sc0 : Scx z z := Scx.rf hn
  refine t_enterI (by decide) (Nat.le_of_ble_eq_true rfl) rfl rfl ?_
  intro p e s m args below meth c A R Q H locs ls E hfr hlo RET G hl
  have E : mE p s m meth c cX11_townLineHere args 2 RX11 D K A := E
  have hl : lv_has ls 2 [(0, .ref (ad 386)), (1, .int x1)] := hl
  refine lv_aload_n E.1 E.2.1 dX11_townLineHere_0 rfl (lv_at hl 0 rfl) ?_
  refine lv_ldc2 (v := 1953462126) E.1 E.2.1 E.2.2.2.1 (E.2.2.2.2.1 _ mw_cL_11_223) dX11_townLineHere_1 ?_
  refine t_vi E G hl (v_isWord l D K ad z o 1953462126 sc0.1) 11 (rfl : ro 386 = 11) (by decide) rfl rfl 1 rfl mw_code_X11_isWord mw_ini_11 mw_ml_11_104 mw_inst_X11_isWord mw_sel_X11_isWord hd_X11_isWord ⟨Nat.le_trans (by decide) hfr, Nat.le_trans (by decide) hlo⟩ rfl rfl rfl (Nat.le_of_ble_eq_true rfl) dX11_townLineHere_4 (fun r2 zz1 H locs hp3 G => ?_)
  obtain ⟨oo4, kk5, b6, h7, h8, h9, h10⟩ := hp3
  have kk11 : KTn z zz1 := KF.tr KF.rf (KN8.t kk5)
  have h12 := Scx.tr sc0 h7
  refine lv_if_eq (tgt := 16) E.1 E.2.1 dX11_townLineHere_7 (by decide) (fun c13 => ?_) (fun c13 => ?_)
  · skip
    have b14 : iv 0 0 r2 := iv_eq c13 (iv_lit (lo := 0) (hi := 0) 0 (by decide) (by decide))
    refine lv_aload_n E.1 E.2.1 dX11_townLineHere_16 rfl (lv_at hl 0 rfl) ?_
    refine t_get E G 11 7 (rfl : ro 386 = 11) (C := RX11) (T := TX11) (N := 37) rfl (by decide) (by decide) (by decide) mw_fl_11_26 (v := .ref (ad 392)) (fvl_o (n := 6) rfl) dX11_townLineHere_17 ?_
    refine lv_iconst (v := 0) E.1 E.2.1 dX11_townLineHere_20 (by decide) ?_
    refine t_iald E G 50 (rfl : ro 392 = 50) (by decide) (by decide) rfl (n := 96) rfl (by unfold vp_in; decide) dX11_townLineHere_21 ?_
    refine lv_topi (fun v15 e16 => ?_)
    have b17 : iv 0 1 v15 := by rw [e16]; exact iv_mono (oo4.a 50 (rfl : ro 392 = 50) _) (by decide +kernel) (by decide +kernel)
    refine lv_if_ne (tgt := 32) E.1 E.2.1 dX11_townLineHere_22 (by decide) (fun c18 => ?_) (fun c18 => ?_)
    · skip
      have b19 : iv 1 1 v15 := ne_lo c18 b17 (by decide) (by decide)
      refine lv_aload_n E.1 E.2.1 dX11_townLineHere_32 rfl (lv_at hl 0 rfl) ?_
      refine lv_ldc2 (v := 7823737) E.1 E.2.1 E.2.2.2.1 (E.2.2.2.2.1 _ mw_cL_11_228) dX11_townLineHere_33 ?_
      refine t_vi E G hl (v_isWord l D K ad zz1 oo4 7823737 h12.1) 11 (rfl : ro 386 = 11) (by decide) rfl rfl 1 rfl mw_code_X11_isWord mw_ini_11 mw_ml_11_104 mw_inst_X11_isWord mw_sel_X11_isWord hd_X11_isWord ⟨Nat.le_trans (by decide) hfr, Nat.le_trans (by decide) hlo⟩ rfl rfl rfl (Nat.le_of_ble_eq_true rfl) dX11_townLineHere_36 (fun r21 zz20 H locs hp22 G => ?_)
      obtain ⟨oo23, kk24, b25, h26, h27, h28, h29⟩ := hp22
      have kk30 : KTn z zz20 := KF.tr kk11 (KN8.t kk24)
      have h31 := Scx.tr h12 h26
      refine lv_if_eq (tgt := 47) E.1 E.2.1 dX11_townLineHere_39 (by decide) (fun c32 => ?_) (fun c32 => ?_)
      · skip
        have b33 : iv 0 0 r21 := iv_eq c32 (iv_lit (lo := 0) (hi := 0) 0 (by decide) (by decide))
        refine lv_aload_n E.1 E.2.1 dX11_townLineHere_47 rfl (lv_at hl 0 rfl) ?_
        refine lv_ldc2 (v := 1819636325) E.1 E.2.1 E.2.2.2.1 (E.2.2.2.2.1 _ mw_cL_11_233) dX11_townLineHere_48 ?_
        refine t_vi E G hl (v_isWord l D K ad zz20 oo23 1819636325 h31.1) 11 (rfl : ro 386 = 11) (by decide) rfl rfl 1 rfl mw_code_X11_isWord mw_ini_11 mw_ml_11_104 mw_inst_X11_isWord mw_sel_X11_isWord hd_X11_isWord ⟨Nat.le_trans (by decide) hfr, Nat.le_trans (by decide) hlo⟩ rfl rfl rfl (Nat.le_of_ble_eq_true rfl) dX11_townLineHere_51 (fun r35 zz34 H locs hp36 G => ?_)
        obtain ⟨oo37, kk38, b39, h40, h41, h42, h43⟩ := hp36
        have kk44 : KTn z zz34 := KF.tr kk30 (KN8.t kk38)
        have h45 := Scx.tr h31 h40
        refine lv_if_eq (tgt := 65) E.1 E.2.1 dX11_townLineHere_54 (by decide) (fun c46 => ?_) (fun c46 => ?_)
        · skip
          have b47 : iv 0 0 r35 := iv_eq c46 (iv_lit (lo := 0) (hi := 0) 0 (by decide) (by decide))
          refine lv_aload_n E.1 E.2.1 dX11_townLineHere_65 rfl (lv_at hl 0 rfl) ?_
          refine lv_iload_n E.1 E.2.1 dX11_townLineHere_66 rfl (lv_at hl 1 rfl) ?_
          refine t_vi E G hl (v_isWalkerHere l D K ad zz34 oo37 x1 h45.1) 11 (rfl : ro 386 = 11) (by decide) rfl rfl 1 rfl mw_code_X11_isWalkerHere mw_ini_11 mw_ml_11_238 mw_inst_X11_isWalkerHere mw_sel_X11_isWalkerHere hd_X11_isWalkerHere ⟨Nat.le_trans (by decide) hfr, Nat.le_trans (by decide) hlo⟩ rfl rfl rfl (Nat.le_of_ble_eq_true rfl) dX11_townLineHere_67 (fun r49 zz48 H locs hp50 G => ?_)
          obtain ⟨oo51, kk52, b53, h54⟩ := hp50
          have kk55 : KTn z zz48 := KF.tr kk44 kk52
          have h56 := Scx.tr h45 h54
          exact RET G ⟨oo51, kk55, (iv_mono b53 (by decide) (by decide)), h56⟩ (nar_b b53) dX11_townLineHere_70
        · skip
          have b57 : iv 1 1 r35 := ne_lo c46 b39 (by decide) (by decide)
          have h58 : LTx zz34 := h43 c46
          refine lv_aload_n E.1 E.2.1 dX11_townLineHere_57 rfl (lv_at hl 0 rfl) ?_
          refine lv_iload_n E.1 E.2.1 dX11_townLineHere_58 rfl (lv_at hl 1 rfl) ?_
          refine t_vi E G hl (v_isLureHere l D K ad zz34 oo37 x1 h45.1) 11 (rfl : ro 386 = 11) (by decide) rfl rfl 1 rfl mw_code_X11_isLureHere mw_ini_11 mw_ml_11_235 mw_inst_X11_isLureHere mw_sel_X11_isLureHere hd_X11_isLureHere ⟨Nat.le_trans (by decide) hfr, Nat.le_trans (by decide) hlo⟩ rfl rfl rfl (Nat.le_of_ble_eq_true rfl) dX11_townLineHere_59 (fun r60 zz59 H locs hp61 G => ?_)
          obtain ⟨oo62, kk63, b64, h65⟩ := hp61
          have kk66 : KTn z zz59 := KF.tr kk44 kk63
          have h67 := Scx.tr h45 h65
          refine lv_goto (tgt := 70) E.1 E.2.1 dX11_townLineHere_62 (by decide) ?_
          exact RET G ⟨oo62, kk66, (iv_mono b64 (by decide) (by decide)), h67⟩ (nar_b b64) dX11_townLineHere_70
      · skip
        have b68 : iv 1 1 r21 := ne_lo c32 b25 (by decide) (by decide)
        have h69 : LTx zz20 := h29 c32
        refine lv_aload_n E.1 E.2.1 dX11_townLineHere_42 rfl (lv_at hl 0 rfl) ?_
        refine t_vi E G hl (v_isWayHere l D K ad zz20 oo23 h31.1) 11 (rfl : ro 386 = 11) (by decide) rfl rfl 0 rfl mw_code_X11_isWayHere mw_ini_11 mw_ml_11_230 mw_inst_X11_isWayHere mw_sel_X11_isWayHere hd_X11_isWayHere ⟨Nat.le_trans (by decide) hfr, Nat.le_trans (by decide) hlo⟩ rfl rfl rfl (Nat.le_of_ble_eq_true rfl) dX11_townLineHere_43 (fun r71 zz70 H locs hp72 G => ?_)
        obtain ⟨oo73, kk74, b75, h76⟩ := hp72
        have kk77 : KTn z zz70 := KF.tr kk30 kk74
        have h78 := Scx.tr h31 h76
        exact RET G ⟨oo73, kk77, (iv_mono b75 (by decide) (by decide)), h78⟩ (nar_b b75) dX11_townLineHere_46
    · skip
      have b79 : iv 0 0 v15 := iv_eq c18 (iv_lit (lo := 0) (hi := 0) 0 (by decide) (by decide))
      refine lv_aload_n E.1 E.2.1 dX11_townLineHere_25 rfl (lv_at hl 0 rfl) ?_
      refine lv_iconst (v := 4) E.1 E.2.1 dX11_townLineHere_26 (by decide) ?_
      refine lv_iload_n E.1 E.2.1 dX11_townLineHere_27 rfl (lv_at hl 1 rfl) ?_
      refine t_vi E G hl (v_fails l D K ad zz1 oo4 (4 : Int32) x1) 11 (rfl : ro 386 = 11) (by decide) rfl rfl 2 rfl mw_code_X11_fails mw_ini_11 mw_ml_11_114 mw_inst_X11_fails mw_sel_X11_fails hd_X11_fails ⟨Nat.le_trans (by decide) hfr, Nat.le_trans (by decide) hlo⟩ rfl rfl rfl (Nat.le_of_ble_eq_true rfl) dX11_townLineHere_28 (fun r81 zz80 H locs hp82 G => ?_)
      obtain ⟨oo83, kk84, b85⟩ := hp82
      have kk86 : KTn z zz80 := KF.tr kk11 (KA9.t kk84)
      have h87 := Scx.tr h12 (Scx.k h12.1 kk84 rfl rfl)
      exact RET G ⟨oo83, kk86, (iv_mono b85 (by decide) (by decide)), h87⟩ (nar_b b85) dX11_townLineHere_31
  · skip
    have b88 : iv 1 1 r2 := ne_lo c13 b6 (by decide) (by decide)
    have h89 : LTx zz1 := h10 c13
    refine lv_aload_n E.1 E.2.1 dX11_townLineHere_10 rfl (lv_at hl 0 rfl) ?_
    refine lv_iload_n E.1 E.2.1 dX11_townLineHere_11 rfl (lv_at hl 1 rfl) ?_
    refine t_vi E G hl (v_isTownHere l D K ad zz1 oo4 x1 h12.1) 11 (rfl : ro 386 = 11) (by decide) rfl rfl 1 rfl mw_code_X11_isTownHere mw_ini_11 mw_ml_11_225 mw_inst_X11_isTownHere mw_sel_X11_isTownHere hd_X11_isTownHere ⟨Nat.le_trans (by decide) hfr, Nat.le_trans (by decide) hlo⟩ rfl rfl rfl (Nat.le_of_ble_eq_true rfl) dX11_townLineHere_12 (fun r91 zz90 H locs hp92 G => ?_)
    obtain ⟨oo93, kk94, b95, h96⟩ := hp92
    have kk97 : KTn z zz90 := KF.tr kk11 kk94
    have h98 := Scx.tr h12 h96
    exact RET G ⟨oo93, kk97, (iv_mono b95 (by decide) (by decide)), h98⟩ (nar_b b95) dX11_townLineHere_15
