theorem mw_code_X11_isLure : (Cond.code yX11_isLure cX11_isLure 2 (some .boolean) : Cond) ∈ cw := cw_of (List.mem_append_right _ (List.mem_append_right _ (List.mem_append_right _ (List.mem_append_right _ (List.mem_append_right _ (List.mem_append_right _ (List.mem_append_left _ (List.mem_of_getElem? (i := 169) rfl)))))))) (by decide +kernel)
theorem mw_ini_11 : (Cond.initialized RX11 : Cond) ∈ cw := cw_of (List.mem_append_right _ (List.mem_append_left _ (List.mem_of_getElem? (i := 12) (by decide +kernel)))) (by decide +kernel)
theorem mw_inst_X11_isLure : (Cond.instanceMethod yX11_isLure : Cond) ∈ cw := cw_of (List.mem_append_right _ (List.mem_append_right _ (List.mem_append_right _ (List.mem_append_right _ (List.mem_append_right _ (List.mem_append_right _ (List.mem_append_left _ (List.mem_of_getElem? (i := 168) (by decide +kernel))))))))) (by decide +kernel)
theorem mw_ml_11_285 : (Cond.methodLink RX11 285 yX11_isLure : Cond) ∈ cw := cw_of (List.mem_append_right _ (List.mem_append_right _ (List.mem_append_right _ (List.mem_append_right _ (List.mem_append_right _ (List.mem_append_right _ (List.mem_append_left _ (List.mem_of_getElem? (i := 166) (by decide +kernel))))))))) (by decide +kernel)
theorem mw_sel_X11_isLure : (Cond.selects RX11 yX11_isLure yX11_isLure : Cond) ∈ cw := cw_of (List.mem_append_left _ (List.mem_of_getElem? (i := 81) (by decide +kernel))) (by decide +kernel)
theorem dX11_isLaid_0 : decode cX11_isLaid 0 = .ok (.aload_n 0, 1) := by decide +kernel
theorem dX11_isLaid_1 : decode cX11_isLaid 1 = .ok (.iload_n 1, 1) := by decide +kernel
theorem dX11_isLaid_2 : decode cX11_isLaid 2 = .ok (.invokevirtual 285, 3) := by decide +kernel
theorem dX11_isLaid_5 : decode cX11_isLaid 5 = .ok (.ifCond .eq 24, 3) := by decide +kernel
theorem dX11_isLaid_8 : decode cX11_isLaid 8 = .ok (.aload_n 0, 1) := by decide +kernel
theorem dX11_isLaid_9 : decode cX11_isLaid 9 = .ok (.getfield 39, 3) := by decide +kernel
theorem dX11_isLaid_12 : decode cX11_isLaid 12 = .ok (.bipush 11, 2) := by decide +kernel
theorem dX11_isLaid_14 : decode cX11_isLaid 14 = .ok (.iconst 3, 1) := by decide +kernel
theorem dX11_isLaid_15 : decode cX11_isLaid 15 = .ok (.iload_n 1, 1) := by decide +kernel
theorem dX11_isLaid_16 : decode cX11_isLaid 16 = .ok (.imul, 1) := by decide +kernel
theorem dX11_isLaid_17 : decode cX11_isLaid 17 = .ok (.iadd, 1) := by decide +kernel
theorem dX11_isLaid_18 : decode cX11_isLaid 18 = .ok (.iconst 2, 1) := by decide +kernel
theorem dX11_isLaid_19 : decode cX11_isLaid 19 = .ok (.iadd, 1) := by decide +kernel
theorem dX11_isLaid_20 : decode cX11_isLaid 20 = .ok (.iaload, 1) := by decide +kernel
theorem dX11_isLaid_21 : decode cX11_isLaid 21 = .ok (.iconst 1, 1) := by decide +kernel
theorem dX11_isLaid_22 : decode cX11_isLaid 22 = .ok (.if_icmp .ne 7, 3) := by decide +kernel
theorem dX11_isLaid_25 : decode cX11_isLaid 25 = .ok (.iconst 1, 1) := by decide +kernel
theorem dX11_isLaid_26 : decode cX11_isLaid 26 = .ok (.goto 4, 3) := by decide +kernel
theorem dX11_isLaid_29 : decode cX11_isLaid 29 = .ok (.iconst 0, 1) := by decide +kernel
theorem dX11_isLaid_30 : decode cX11_isLaid 30 = .ok (.ireturn, 1) := by decide +kernel
theorem hd_X11_isLure : yX11_isLure.cls ≠ "java/lang/invoke/MethodHandle" ∧ yX11_isLure.cls ≠ "java/lang/invoke/VarHandle" ∧ (parseMethodDescriptor yX11_isLure.desc).map (fun d => d.parameters.length) = some 1 := ⟨by decide +kernel, by decide +kernel, by decide +kernel⟩
set_option maxHeartbeats 4000000 in
set_option maxRecDepth 100000 in
theorem v_isLaid (l : Launch) (D : va_G) (K : Nat → ClassId) (ad : Nat → Nat) (z : TS) (o : Ok z) (x1 : Int32) : cI l yX11_isLaid cX11_isLaid 2 .boolean ({ frames := 1, cells := 0, slots := 0, locals := 21 }) D K ad z [.ref (ad 386), .int x1] (fun r u => u = z ∧ iv 0 1 r ∧ (¬ r = 0 → iv 0 5 x1)) := by
  refine t_enterI (by decide) (Nat.le_of_ble_eq_true rfl) rfl rfl ?_
  intro p e s m args below meth c A R Q H locs ls E hfr hlo RET G hl
  have E : mE p s m meth c cX11_isLaid args 2 RX11 D K A := E
  have hl : lv_has ls 2 [(0, .ref (ad 386)), (1, .int x1)] := hl
  refine lv_aload_n E.1 E.2.1 dX11_isLaid_0 rfl (lv_at hl 0 rfl) ?_
  refine lv_iload_n E.1 E.2.1 dX11_isLaid_1 rfl (lv_at hl 1 rfl) ?_
  refine t_vi E G hl (v_isLure l D K ad z o x1) 11 (rfl : ro 386 = 11) (by decide) rfl rfl 1 rfl mw_code_X11_isLure mw_ini_11 mw_ml_11_285 mw_inst_X11_isLure mw_sel_X11_isLure hd_X11_isLure ⟨Nat.le_trans (by decide) hfr, Nat.le_trans (by decide) hlo⟩ rfl rfl rfl (Nat.le_of_ble_eq_true rfl) dX11_isLaid_2 (fun r2 zz1 H locs hp3 G => ?_)
  obtain ⟨hz6, b4, h5⟩ := hp3
  rw [hz6] at G
  refine lv_if_eq (tgt := 29) E.1 E.2.1 dX11_isLaid_5 (by decide) (fun c7 => ?_) (fun c7 => ?_)
  · skip
    have b8 : iv 0 0 r2 := iv_eq c7 (iv_lit (lo := 0) (hi := 0) 0 (by decide) (by decide))
    refine lv_iconst (v := 0) E.1 E.2.1 dX11_isLaid_29 (by decide) ?_
    exact RET G ⟨rfl, (iv_mono (iv_lit (lo := 0) (hi := 0) 0 (by decide) (by decide)) (by decide) (by decide)), (fun h => absurd rfl h)⟩ (by decide) dX11_isLaid_30
  · skip
    have b9 : iv 1 1 r2 := ne_lo c7 b4 (by decide) (by decide)
    have b10 : iv 0 5 x1 := h5 c7
    refine lv_aload_n E.1 E.2.1 dX11_isLaid_8 rfl (lv_at hl 0 rfl) ?_
    refine t_get E G 11 20 (rfl : ro 386 = 11) (C := RX11) (T := TX11) (N := 37) rfl (by decide) (by decide) (by decide) mw_fl_11_39 (v := .ref (ad 396)) (fvl_o (n := 10) rfl) dX11_isLaid_9 ?_
    refine lv_bipush (v := 11) E.1 E.2.1 dX11_isLaid_12 (by decide) ?_
    refine lv_iconst (v := 3) E.1 E.2.1 dX11_isLaid_14 (by decide) ?_
    refine lv_iload_n E.1 E.2.1 dX11_isLaid_15 rfl (lv_at hl 1 rfl) ?_
    refine lv_imul E.1 E.2.1 dX11_isLaid_16 ?_
    refine lv_topi (fun v11 e12 => ?_)
    have b13 : iv 0 15 v11 := by rw [e12]; exact iv_mulc' b10 3 (by decide) (by decide) (by decide) (by decide) (by decide) (by decide)
    have l14 : v11.toInt = 0 + 3 * x1.toInt := (show v11.toInt = 3 * x1.toInt by rw [e12]; exact ti_cmul 3 (by decide) (by decide) b10 (by decide) (by decide)).trans (by omega)
    refine lv_iadd E.1 E.2.1 dX11_isLaid_17 ?_
    refine lv_topi (fun v15 e16 => ?_)
    have b17 : iv 11 26 v15 := by rw [e16]; exact iv_add (iv_lit (lo := 11) (hi := 11) 11 (by decide) (by decide)) b13 (by decide) (by decide) (by decide) (by decide)
    have l18 : v15.toInt = 11 + 3 * x1.toInt := (show v15.toInt = 11 + v11.toInt by rw [e16]; exact ti_cadd 11 (by decide) b13 (by decide) (by decide)).trans (by omega)
    refine lv_iconst (v := 2) E.1 E.2.1 dX11_isLaid_18 (by decide) ?_
    refine lv_iadd E.1 E.2.1 dX11_isLaid_19 ?_
    refine lv_topi (fun v19 e20 => ?_)
    have b21 : iv 13 28 v19 := by rw [e20]; exact iv_add b17 (iv_lit (lo := 2) (hi := 2) 2 (by decide) (by decide)) (by decide) (by decide) (by decide) (by decide)
    have l22 : v19.toInt = 13 + 3 * x1.toInt := (show v19.toInt = v15.toInt + 2 by rw [e20]; exact ti_addc 2 (by decide) b17 (by decide) (by decide)).trans (by omega)
    refine t_iald E G 54 (rfl : ro 396 = 54) (by decide) (by decide) rfl (n := 127) rfl (iv_vp b21 (by decide) (by decide)) dX11_isLaid_20 ?_
    refine lv_topi (fun v23 e24 => ?_)
    refine lv_iconst (v := 1) E.1 E.2.1 dX11_isLaid_21 (by decide) ?_
    refine lv_icmp_ne (tgt := 29) E.1 E.2.1 dX11_isLaid_22 (by decide) (fun c25 => ?_) (fun c25 => ?_)
    · skip
      refine lv_iconst (v := 0) E.1 E.2.1 dX11_isLaid_29 (by decide) ?_
      exact RET G ⟨rfl, (iv_mono (iv_lit (lo := 0) (hi := 0) 0 (by decide) (by decide)) (by decide) (by decide)), (fun h => absurd rfl h)⟩ (by decide) dX11_isLaid_30
    · skip
      have b26 : iv 1 1 v23 := iv_eq c25 (iv_lit (lo := 1) (hi := 1) 1 (by decide) (by decide))
      refine lv_iconst (v := 1) E.1 E.2.1 dX11_isLaid_25 (by decide) ?_
      refine lv_goto (tgt := 30) E.1 E.2.1 dX11_isLaid_26 (by decide) ?_
      exact RET G ⟨rfl, (iv_mono (iv_lit (lo := 1) (hi := 1) 1 (by decide) (by decide)) (by decide) (by decide)), (fun _ => iv_mono b10 (by decide) (by decide))⟩ (by decide) dX11_isLaid_30
