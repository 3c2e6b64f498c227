theorem mw_code_X11_canBe : (Cond.code yX11_canBe cX11_canBe 6 (some .int) : Cond) ∈ cw := cw_of (List.mem_append_right _ (List.mem_append_right _ (List.mem_append_right _ (List.mem_append_right _ (List.mem_append_right _ (List.mem_append_right _ (List.mem_append_right _ (List.mem_append_left _ (List.mem_of_getElem? (i := 216) rfl))))))))) (by decide +kernel)
theorem mw_inst_X11_canBe : (Cond.instanceMethod yX11_canBe : Cond) ∈ cw := cw_of (List.mem_append_right _ (List.mem_append_right _ (List.mem_append_right _ (List.mem_append_right _ (List.mem_append_right _ (List.mem_append_right _ (List.mem_append_right _ (List.mem_append_left _ (List.mem_of_getElem? (i := 215) (by decide +kernel)))))))))) (by decide +kernel)
theorem mw_ml_11_443 : (Cond.methodLink RX11 443 yX11_canBe : Cond) ∈ cw := cw_of (List.mem_append_right _ (List.mem_append_right _ (List.mem_append_right _ (List.mem_append_right _ (List.mem_append_right _ (List.mem_append_right _ (List.mem_append_right _ (List.mem_append_left _ (List.mem_of_getElem? (i := 213) (by decide +kernel)))))))))) (by decide +kernel)
theorem mw_sel_X11_canBe : (Cond.selects RX11 yX11_canBe yX11_canBe : Cond) ∈ cw := cw_of (List.mem_append_left _ (List.mem_of_getElem? (i := 123) (by decide +kernel))) (by decide +kernel)
theorem dX11_hearts_0 : decode cX11_hearts 0 = .ok (.aload_n 0, 1) := by decide +kernel
theorem dX11_hearts_1 : decode cX11_hearts 1 = .ok (.iload_n 1, 1) := by decide +kernel
theorem dX11_hearts_2 : decode cX11_hearts 2 = .ok (.invokevirtual 317, 3) := by decide +kernel
theorem dX11_hearts_5 : decode cX11_hearts 5 = .ok (.ifCond .eq 16, 3) := by decide +kernel
theorem dX11_hearts_8 : decode cX11_hearts 8 = .ok (.aload_n 0, 1) := by decide +kernel
theorem dX11_hearts_9 : decode cX11_hearts 9 = .ok (.bipush 61, 2) := by decide +kernel
theorem dX11_hearts_11 : decode cX11_hearts 11 = .ok (.iload_n 1, 1) := by decide +kernel
theorem dX11_hearts_12 : decode cX11_hearts 12 = .ok (.iadd, 1) := by decide +kernel
theorem dX11_hearts_13 : decode cX11_hearts 13 = .ok (.bipush 7, 2) := by decide +kernel
theorem dX11_hearts_15 : decode cX11_hearts 15 = .ok (.invokevirtual 443, 3) := by decide +kernel
theorem dX11_hearts_18 : decode cX11_hearts 18 = .ok (.goto 4, 3) := by decide +kernel
theorem dX11_hearts_21 : decode cX11_hearts 21 = .ok (.iconst (-1), 1) := by decide +kernel
theorem dX11_hearts_22 : decode cX11_hearts 22 = .ok (.ireturn, 1) := by decide +kernel
theorem dX11_waries_0 : decode cX11_waries 0 = .ok (.aload_n 0, 1) := by decide +kernel
theorem dX11_waries_1 : decode cX11_waries 1 = .ok (.iload_n 1, 1) := by decide +kernel
theorem dX11_waries_2 : decode cX11_waries 2 = .ok (.invokevirtual 317, 3) := by decide +kernel
theorem dX11_waries_5 : decode cX11_waries 5 = .ok (.ifCond .eq 20, 3) := by decide +kernel
theorem dX11_waries_8 : decode cX11_waries 8 = .ok (.aload_n 0, 1) := by decide +kernel
theorem dX11_waries_9 : decode cX11_waries 9 = .ok (.bipush 78, 2) := by decide +kernel
theorem dX11_waries_11 : decode cX11_waries 11 = .ok (.iconst 2, 1) := by decide +kernel
theorem dX11_waries_12 : decode cX11_waries 12 = .ok (.iload_n 1, 1) := by decide +kernel
theorem dX11_waries_13 : decode cX11_waries 13 = .ok (.imul, 1) := by decide +kernel
theorem dX11_waries_14 : decode cX11_waries 14 = .ok (.iadd, 1) := by decide +kernel
theorem dX11_waries_15 : decode cX11_waries 15 = .ok (.iconst 1, 1) := by decide +kernel
theorem dX11_waries_16 : decode cX11_waries 16 = .ok (.iadd, 1) := by decide +kernel
theorem dX11_waries_17 : decode cX11_waries 17 = .ok (.bipush 9, 2) := by decide +kernel
theorem dX11_waries_19 : decode cX11_waries 19 = .ok (.invokevirtual 443, 3) := by decide +kernel
theorem dX11_waries_22 : decode cX11_waries 22 = .ok (.goto 4, 3) := by decide +kernel
theorem dX11_waries_25 : decode cX11_waries 25 = .ok (.iconst (-1), 1) := by decide +kernel
theorem dX11_waries_26 : decode cX11_waries 26 = .ok (.ireturn, 1) := by decide +kernel
theorem hd_X11_canBe : yX11_canBe.cls ≠ "java/lang/invoke/MethodHandle" ∧ yX11_canBe.cls ≠ "java/lang/invoke/VarHandle" ∧ (parseMethodDescriptor yX11_canBe.desc).map (fun d => d.parameters.length) = some 2 := ⟨by decide +kernel, by decide +kernel, by decide +kernel⟩
set_option maxHeartbeats 4000000 in
set_option maxRecDepth 100000 in
theorem v_hearts (l : Launch) (D : va_G) (K : Nat → ClassId) (ad : Nat → Nat) (z : TS) (o : Ok z) (x1 : Int32) (wf : WFc z) : cI l yX11_hearts cX11_hearts 2 .int ({ frames := 9, cells := 0, slots := 0, locals := 218 }) D K ad z [.ref (ad 386), .int x1] (fun r u => Ok u ∧ KM z u) := by
  refine t_enterI (by decide) (Nat.le_of_ble_eq_true rfl) rfl rfl ?_
  intro p e s m args below meth c A R Q H locs ls E hfr hlo RET G hl
  have E : mE p s m meth c cX11_hearts args 2 RX11 D K A := E
  have hl : lv_has ls 2 [(0, .ref (ad 386)), (1, .int x1)] := hl
  refine lv_aload_n E.1 E.2.1 dX11_hearts_0 rfl (lv_at hl 0 rfl) ?_
  refine lv_iload_n E.1 E.2.1 dX11_hearts_1 rfl (lv_at hl 1 rfl) ?_
  refine t_vi E G hl (v_isWalker l D K ad z o x1) 11 (rfl : ro 386 = 11) (by decide) rfl rfl 1 rfl mw_code_X11_isWalker mw_ini_11 mw_ml_11_317 mw_inst_X11_isWalker mw_sel_X11_isWalker hd_X11_isWalker ⟨Nat.le_trans (by decide) hfr, Nat.le_trans (by decide) hlo⟩ rfl rfl rfl (Nat.le_of_ble_eq_true rfl) dX11_hearts_2 (fun r2 zz1 H locs hp3 G => ?_)
  obtain ⟨hz6, b4, h5⟩ := hp3
  rw [hz6] at G
  refine lv_if_eq (tgt := 21) E.1 E.2.1 dX11_hearts_5 (by decide) (fun c7 => ?_) (fun c7 => ?_)
  · skip
    have b8 : iv 0 0 r2 := iv_eq c7 (iv_lit (lo := 0) (hi := 0) 0 (by decide) (by decide))
    refine lv_iconst (v := (-1)) E.1 E.2.1 dX11_hearts_21 (by decide) ?_
    exact RET G ⟨o, KF.rf⟩ rfl dX11_hearts_22
  · skip
    have b9 : iv 1 1 r2 := ne_lo c7 b4 (by decide) (by decide)
    have b10 : iv 0 4 x1 := h5 c7
    refine lv_aload_n E.1 E.2.1 dX11_hearts_8 rfl (lv_at hl 0 rfl) ?_
    refine lv_bipush (v := 61) E.1 E.2.1 dX11_hearts_9 (by decide) ?_
    refine lv_iload_n E.1 E.2.1 dX11_hearts_11 rfl (lv_at hl 1 rfl) ?_
    refine lv_iadd E.1 E.2.1 dX11_hearts_12 ?_
    refine lv_topi (fun v11 e12 => ?_)
    have b13 : iv 61 65 v11 := by rw [e12]; exact iv_add (iv_lit (lo := 61) (hi := 61) 61 (by decide) (by decide)) b10 (by decide) (by decide) (by decide) (by decide)
    have l14 : v11.toInt = 61 + 1 * x1.toInt := (show v11.toInt = 61 + x1.toInt by rw [e12]; exact ti_cadd 61 (by decide) b10 (by decide) (by decide)).trans (by omega)
    refine lv_bipush (v := 7) E.1 E.2.1 dX11_hearts_13 (by decide) ?_
    refine t_vi E G hl (v_canBe_h l D K ad z o v11 (iv_mono b13 (by decide) (by decide)) (7 : Int32) (iv_mono (iv_lit (lo := 7) (hi := 7) 7 (by decide) (by decide)) (by decide) (by decide)) wf) 11 (rfl : ro 386 = 11) (by decide) rfl rfl 2 rfl mw_code_X11_canBe mw_ini_11 mw_ml_11_443 mw_inst_X11_canBe mw_sel_X11_canBe hd_X11_canBe ⟨Nat.le_trans (by decide) hfr, Nat.le_trans (by decide) hlo⟩ rfl rfl rfl (Nat.le_of_ble_eq_true rfl) dX11_hearts_15 (fun r16 zz15 H locs hp17 G => ?_)
    obtain ⟨oo18, kk19⟩ := hp17
    have kk20 : KM z zz15 := KF.tr KF.rf kk19
    refine lv_goto (tgt := 22) E.1 E.2.1 dX11_hearts_18 (by decide) ?_
    exact RET G ⟨oo18, kk20⟩ rfl dX11_hearts_22
set_option maxHeartbeats 4000000 in
set_option maxRecDepth 100000 in
theorem v_waries (l : Launch) (D : va_G) (K : Nat → ClassId) (ad : Nat → Nat) (z : TS) (o : Ok z) (x1 : Int32) (wf : WFc z) : cI l yX11_waries cX11_waries 2 .int ({ frames := 9, cells := 0, slots := 0, locals := 218 }) D K ad z [.ref (ad 386), .int x1] (fun r u => Ok u ∧ KM z u) := by
  refine t_enterI (by decide) (Nat.le_of_ble_eq_true rfl) rfl rfl ?_
  intro p e s m args below meth c A R Q H locs ls E hfr hlo RET G hl
  have E : mE p s m meth c cX11_waries args 2 RX11 D K A := E
  have hl : lv_has ls 2 [(0, .ref (ad 386)), (1, .int x1)] := hl
  refine lv_aload_n E.1 E.2.1 dX11_waries_0 rfl (lv_at hl 0 rfl) ?_
  refine lv_iload_n E.1 E.2.1 dX11_waries_1 rfl (lv_at hl 1 rfl) ?_
  refine t_vi E G hl (v_isWalker l D K ad z o x1) 11 (rfl : ro 386 = 11) (by decide) rfl rfl 1 rfl mw_code_X11_isWalker mw_ini_11 mw_ml_11_317 mw_inst_X11_isWalker mw_sel_X11_isWalker hd_X11_isWalker ⟨Nat.le_trans (by decide) hfr, Nat.le_trans (by decide) hlo⟩ rfl rfl rfl (Nat.le_of_ble_eq_true rfl) dX11_waries_2 (fun r2 zz1 H locs hp3 G => ?_)
  obtain ⟨hz6, b4, h5⟩ := hp3
  rw [hz6] at G
  refine lv_if_eq (tgt := 25) E.1 E.2.1 dX11_waries_5 (by decide) (fun c7 => ?_) (fun c7 => ?_)
  · skip
    have b8 : iv 0 0 r2 := iv_eq c7 (iv_lit (lo := 0) (hi := 0) 0 (by decide) (by decide))
    refine lv_iconst (v := (-1)) E.1 E.2.1 dX11_waries_25 (by decide) ?_
    exact RET G ⟨o, KF.rf⟩ rfl dX11_waries_26
  · skip
    have b9 : iv 1 1 r2 := ne_lo c7 b4 (by decide) (by decide)
    have b10 : iv 0 4 x1 := h5 c7
    refine lv_aload_n E.1 E.2.1 dX11_waries_8 rfl (lv_at hl 0 rfl) ?_
    refine lv_bipush (v := 78) E.1 E.2.1 dX11_waries_9 (by decide) ?_
    refine lv_iconst (v := 2) E.1 E.2.1 dX11_waries_11 (by decide) ?_
    refine lv_iload_n E.1 E.2.1 dX11_waries_12 rfl (lv_at hl 1 rfl) ?_
    refine lv_imul E.1 E.2.1 dX11_waries_13 ?_
    refine lv_topi (fun v11 e12 => ?_)
    have b13 : iv 0 8 v11 := by rw [e12]; exact iv_mulc' b10 2 (by decide) (by decide) (by decide) (by decide) (by decide) (by decide)
    have l14 : v11.toInt = 0 + 2 * x1.toInt := (show v11.toInt = 2 * x1.toInt by rw [e12]; exact ti_cmul 2 (by decide) (by decide) b10 (by decide) (by decide)).trans (by omega)
    refine lv_iadd E.1 E.2.1 dX11_waries_14 ?_
    refine lv_topi (fun v15 e16 => ?_)
    have b17 : iv 78 86 v15 := by rw [e16]; exact iv_add (iv_lit (lo := 78) (hi := 78) 78 (by decide) (by decide)) b13 (by decide) (by decide) (by decide) (by decide)
    have l18 : v15.toInt = 78 + 2 * x1.toInt := (show v15.toInt = 78 + v11.toInt by rw [e16]; exact ti_cadd 78 (by decide) b13 (by decide) (by decide)).trans (by omega)
    refine lv_iconst (v := 1) E.1 E.2.1 dX11_waries_15 (by decide) ?_
    refine lv_iadd E.1 E.2.1 dX11_waries_16 ?_
    refine lv_topi (fun v19 e20 => ?_)
    have b21 : iv 79 87 v19 := by rw [e20]; exact iv_add b17 (iv_lit (lo := 1) (hi := 1) 1 (by decide) (by decide)) (by decide) (by decide) (by decide) (by decide)
    have l22 : v19.toInt = 79 + 2 * x1.toInt := (show v19.toInt = v15.toInt + 1 by rw [e20]; exact ti_addc 1 (by decide) b17 (by decide) (by decide)).trans (by omega)
    refine lv_bipush (v := 9) E.1 E.2.1 dX11_waries_17 (by decide) ?_
    refine t_vi E G hl (v_canBe_w l D K ad z o v19 (iv_mono b21 (by decide) (by decide)) (9 : Int32) (iv_mono (iv_lit (lo := 9) (hi := 9) 9 (by decide) (by decide)) (by decide) (by decide)) wf ⟨x1.toInt, b10, l22⟩) 11 (rfl : ro 386 = 11) (by decide) rfl rfl 2 rfl mw_code_X11_canBe mw_ini_11 mw_ml_11_443 mw_inst_X11_canBe mw_sel_X11_canBe hd_X11_canBe ⟨Nat.le_trans (by decide) hfr, Nat.le_trans (by decide) hlo⟩ rfl rfl rfl (Nat.le_of_ble_eq_true rfl) dX11_waries_19 (fun r24 zz23 H locs hp25 G => ?_)
    obtain ⟨oo26, kk27⟩ := hp25
    have kk28 : KM z zz23 := KF.tr KF.rf kk27
    refine lv_goto (tgt := 26) E.1 E.2.1 dX11_waries_22 (by decide) ?_
    exact RET G ⟨oo26, kk28⟩ rfl dX11_waries_26
