theorem mw_code_X11_passes : (Cond.code yX11_passes cX11_passes 3 (some .int) : Cond) ∈ cw := cw_of (List.mem_append_right _ (List.mem_append_right _ (List.mem_append_right _ (List.mem_append_right _ (List.mem_append_right _ (List.mem_append_right _ (List.mem_append_left _ (List.mem_of_getElem? (i := 225) rfl)))))))) (by decide +kernel)
theorem mw_inst_X11_passes : (Cond.instanceMethod yX11_passes : Cond) ∈ cw := cw_of (List.mem_append_right _ (List.mem_append_right _ (List.mem_append_right _ (List.mem_append_right _ (List.mem_append_right _ (List.mem_append_right _ (List.mem_append_left _ (List.mem_of_getElem? (i := 224) (by decide +kernel))))))))) (by decide +kernel)
theorem mw_ml_11_356 : (Cond.methodLink RX11 356 yX11_passes : Cond) ∈ cw := cw_of (List.mem_append_right _ (List.mem_append_right _ (List.mem_append_right _ (List.mem_append_right _ (List.mem_append_right _ (List.mem_append_right _ (List.mem_append_left _ (List.mem_of_getElem? (i := 222) (by decide +kernel))))))))) (by decide +kernel)
theorem mw_sel_X11_passes : (Cond.selects RX11 yX11_passes yX11_passes : Cond) ∈ cw := cw_of (List.mem_append_left _ (List.mem_of_getElem? (i := 91) (by decide +kernel))) (by decide +kernel)
theorem dX11_passesAll_0 : decode cX11_passesAll 0 = .ok (.iconst 0, 1) := by decide +kernel
theorem dX11_passesAll_1 : decode cX11_passesAll 1 = .ok (.istore_n 2, 1) := by decide +kernel
theorem dX11_passesAll_2 : decode cX11_passesAll 2 = .ok (.iload_n 2, 1) := by decide +kernel
theorem dX11_passesAll_3 : decode cX11_passesAll 3 = .ok (.iload_n 1, 1) := by decide +kernel
theorem dX11_passesAll_4 : decode cX11_passesAll 4 = .ok (.if_icmp .ge 14, 3) := by decide +kernel
theorem dX11_passesAll_7 : decode cX11_passesAll 7 = .ok (.aload_n 0, 1) := by decide +kernel
theorem dX11_passesAll_8 : decode cX11_passesAll 8 = .ok (.invokevirtual 356, 3) := by decide +kernel
theorem dX11_passesAll_11 : decode cX11_passesAll 11 = .ok (.pop, 1) := by decide +kernel
theorem dX11_passesAll_12 : decode cX11_passesAll 12 = .ok (.iinc 2 1, 3) := by decide +kernel
theorem dX11_passesAll_15 : decode cX11_passesAll 15 = .ok (.goto (-13), 3) := by decide +kernel
theorem dX11_passesAll_18 : decode cX11_passesAll 18 = .ok (.return_, 1) := by decide +kernel
theorem dX11_step_0 : decode cX11_step 0 = .ok (.aload_n 0, 1) := by decide +kernel
theorem dX11_step_1 : decode cX11_step 1 = .ok (.invokevirtual 359, 3) := by decide +kernel
theorem dX11_step_4 : decode cX11_step 4 = .ok (.ifCond .eq 16, 3) := by decide +kernel
theorem dX11_step_7 : decode cX11_step 7 = .ok (.aload_n 0, 1) := by decide +kernel
theorem dX11_step_8 : decode cX11_step 8 = .ok (.getfield 39, 3) := by decide +kernel
theorem dX11_step_11 : decode cX11_step 11 = .ok (.bipush 10, 2) := by decide +kernel
theorem dX11_step_13 : decode cX11_step 13 = .ok (.iaload, 1) := by decide +kernel
theorem dX11_step_14 : decode cX11_step 14 = .ok (.sipush 999, 3) := by decide +kernel
theorem dX11_step_17 : decode cX11_step 17 = .ok (.if_icmp .ne 5, 3) := by decide +kernel
theorem dX11_step_20 : decode cX11_step 20 = .ok (.iconst (-1), 1) := by decide +kernel
theorem dX11_step_21 : decode cX11_step 21 = .ok (.ireturn, 1) := by decide +kernel
theorem dX11_step_22 : decode cX11_step 22 = .ok (.aload_n 0, 1) := by decide +kernel
theorem dX11_step_23 : decode cX11_step 23 = .ok (.invokevirtual 362, 3) := by decide +kernel
theorem dX11_step_26 : decode cX11_step 26 = .ok (.aload_n 0, 1) := by decide +kernel
theorem dX11_step_27 : decode cX11_step 27 = .ok (.invokevirtual 356, 3) := by decide +kernel
theorem dX11_step_30 : decode cX11_step 30 = .ok (.ireturn, 1) := by decide +kernel
theorem hd_X11_passes : yX11_passes.cls ≠ "java/lang/invoke/MethodHandle" ∧ yX11_passes.cls ≠ "java/lang/invoke/VarHandle" ∧ (parseMethodDescriptor yX11_passes.desc).map (fun d => d.parameters.length) = some 0 := ⟨by decide +kernel, by decide +kernel, by decide +kernel⟩
set_option maxHeartbeats 4000000 in
set_option maxRecDepth 100000 in
theorem v_passesAll (l : Launch) (D : va_G) (K : Nat → ClassId) (ad : Nat → Nat) (z : TS) (o : Ok z) (x1 : Int32) (bx1 : iv 0 100 x1) (wf : WFc z) : cV l yX11_passesAll cX11_passesAll 3 ({ frames := 7, cells := 0, slots := 0, locals := 168 }) D K ad z [.ref (ad 386), .int x1] (fun u => Ok u ∧ KM z u) := by
  refine t_enterV (by decide) (Nat.le_of_ble_eq_true rfl) rfl rfl ?_
  intro p e s m args below meth c A R Q H locs ls E hfr hlo RET G hl
  have E : mE p s m meth c cX11_passesAll args 3 RX11 D K A := E
  have hl : lv_has ls 3 [(0, .ref (ad 386)), (1, .int x1)] := hl
  refine lv_iconst (v := 0) E.1 E.2.1 dX11_passesAll_0 (by decide) ?_
  refine lv_istore_n (lv' := [(2, .int 0), (0, .ref (ad 386)), (1, .int x1)]) E.1 E.2.1 dX11_passesAll_1 rfl hl (by decide) rfl (fun ls hl => ?_)
  have LOOP2 : ∀ n : Nat, ∀ (zz2 : TS) (y1 : Int32) (H : Heap) (locs : List Loc) (ls : Array Slot), mG D A s H locs (wd K ad zz2) → Ok zz2 → KM z zz2 → iv 0 100 y1 → 100 < y1.toInt + (n : Int) → lv_has ls 3 [(2, .int y1), (0, .ref (ad 386)), (1, .int x1)] → W p l e R s m args below meth c H locs 0 0 Q (F0 m 2 ls []) := by
    intro n
    induction n with
    | zero =>
      intro zz2 y1 H locs ls G oo3 kk4 b6 m5 hl
      exact absurd m5 (by have := b6.1; have := b6.2; omega)
    | succ n ih2 =>
      intro zz2 y1 H locs ls G oo3 kk4 b6 m5 hl
      refine lv_iload_n E.1 E.2.1 dX11_passesAll_2 rfl (lv_at hl 0 rfl) ?_
      refine lv_iload_n E.1 E.2.1 dX11_passesAll_3 rfl (lv_at hl 2 rfl) ?_
      refine lv_icmp_ge (tgt := 18) E.1 E.2.1 dX11_passesAll_4 (by decide) (fun c7 => ?_) (fun c7 => ?_)
      · skip
        exact RET G ⟨oo3, kk4⟩ dX11_passesAll_18
      · skip
        have b8 : iv 0 99 y1 := lt_l (Int32.not_le.mp c7) b6 bx1 (by decide)
        have b9 : iv 1 100 x1 := lt_r (Int32.not_le.mp c7) b6 bx1 (by decide)
        refine lv_aload_n E.1 E.2.1 dX11_passesAll_7 rfl (lv_at hl 1 rfl) ?_
        refine t_vi E G hl (v_passes l D K ad zz2 oo3 (wf_ka wf kk4.2.1 rfl rfl rfl rfl)) 11 (rfl : ro 386 = 11) (by decide) rfl rfl 0 rfl mw_code_X11_passes mw_ini_11 mw_ml_11_356 mw_inst_X11_passes mw_sel_X11_passes hd_X11_passes ⟨Nat.le_trans (by decide) hfr, Nat.le_trans (by decide) hlo⟩ rfl rfl rfl (Nat.le_of_ble_eq_true rfl) dX11_passesAll_8 (fun r11 zz10 H locs hp12 G => ?_)
        obtain ⟨oo13, kk14⟩ := hp12
        have kk15 : KM z zz10 := KF.tr kk4 kk14
        refine lv_pop E.1 E.2.1 dX11_passesAll_11 rfl ?_
        obtain ⟨v16, e17⟩ : ∃ w : Int32, w = y1 + (1 : Int32) := ⟨_, rfl⟩
        refine lv_iinc (v := v16) (lv' := [(2, .int v16), (0, .ref (ad 386)), (1, .int x1)]) E.1 E.2.1 dX11_passesAll_12 hl (k := 0) rfl (by rw [e17]; rfl) (by decide) rfl (fun ls hl => ?_)
        have b18 : iv 1 100 v16 := by rw [e17]; exact iv_add b8 (iv_lit (lo := 1) (hi := 1) 1 (by decide) (by decide)) (by decide) (by decide) (by decide) (by decide)
        have t19 : v16.toInt = y1.toInt + 1 := by rw [e17]; exact ti_addc 1 (by decide) b8 (by decide) (by decide)
        refine lv_goto (tgt := 2) E.1 E.2.1 dX11_passesAll_15 (by decide) ?_
        exact ih2 zz10 v16 H locs ls G oo13 kk15 (iv_mono b18 (by decide) (by decide)) (by have := t19; have := m5; omega) (lv_sub hl [0, 1, 2] rfl)
  exact LOOP2 101 z 0 H locs ls G o KF.rf (iv_mono (iv_lit (lo := 0) (hi := 0) 0 (by decide) (by decide)) (by decide) (by decide)) (by have := (iv_lit (lo := 0) (hi := 0) 0 (by decide) (by decide)).1; omega) (lv_sub hl [0, 1, 2] rfl)
set_option maxHeartbeats 4000000 in
set_option maxRecDepth 100000 in
theorem v_step (l : Launch) (D : va_G) (K : Nat → ClassId) (ad : Nat → Nat) (z : TS) (o : Ok z) (wf : WFc z) : cI l yX11_step cX11_step 1 .int ({ frames := 7, cells := 0, slots := 0, locals := 168 }) D K ad z [.ref (ad 386)] (fun r u => Ok u ∧ KM z u) := by
  refine t_enterI (by decide) (Nat.le_of_ble_eq_true rfl) rfl rfl ?_
  intro p e s m args below meth c A R Q H locs ls E hfr hlo RET G hl
  have E : mE p s m meth c cX11_step args 1 RX11 D K A := E
  have hl : lv_has ls 1 [(0, .ref (ad 386))] := hl
  refine lv_aload_n E.1 E.2.1 dX11_step_0 rfl (lv_at hl 0 rfl) ?_
  refine t_vi E G hl (v_isTown l D K ad z o) 11 (rfl : ro 386 = 11) (by decide) rfl rfl 0 rfl mw_code_X11_isTown mw_ini_11 mw_ml_11_359 mw_inst_X11_isTown mw_sel_X11_isTown hd_X11_isTown ⟨Nat.le_trans (by decide) hfr, Nat.le_trans (by decide) hlo⟩ rfl rfl rfl (Nat.le_of_ble_eq_true rfl) dX11_step_1 (fun r2 zz1 H locs hp3 G => ?_)
  obtain ⟨hz5, b4⟩ := hp3
  rw [hz5] at G
  refine lv_if_eq (tgt := 20) E.1 E.2.1 dX11_step_4 (by decide) (fun c6 => ?_) (fun c6 => ?_)
  · skip
    have b7 : iv 0 0 r2 := iv_eq c6 (iv_lit (lo := 0) (hi := 0) 0 (by decide) (by decide))
    refine lv_iconst (v := (-1)) E.1 E.2.1 dX11_step_20 (by decide) ?_
    exact RET G ⟨o, KF.rf⟩ rfl dX11_step_21
  · skip
    have b8 : iv 1 1 r2 := ne_lo c6 b4 (by decide) (by decide)
    refine lv_aload_n E.1 E.2.1 dX11_step_7 rfl (lv_at hl 0 rfl) ?_
    refine t_get E G 11 20 (rfl : ro 386 = 11) (C := RX11) (T := TX11) (N := 37) rfl (by decide) (by decide) (by decide) mw_fl_11_39 (v := .ref (ad 396)) (fvl_o (n := 10) rfl) dX11_step_8 ?_
    refine lv_bipush (v := 10) E.1 E.2.1 dX11_step_11 (by decide) ?_
    refine t_iald E G 54 (rfl : ro 396 = 54) (by decide) (by decide) rfl (n := 127) rfl (by unfold vp_in; decide) dX11_step_13 ?_
    refine lv_topi (fun v9 e10 => ?_)
    refine lv_sipush (v := 999) E.1 E.2.1 dX11_step_14 (by decide) ?_
    refine lv_icmp_ne (tgt := 22) E.1 E.2.1 dX11_step_17 (by decide) (fun c11 => ?_) (fun c11 => ?_)
    · skip
      refine lv_aload_n E.1 E.2.1 dX11_step_22 rfl (lv_at hl 0 rfl) ?_
      refine t_vv E G hl (v_keepsAct l D K ad z o) 11 (rfl : ro 386 = 11) (by decide) rfl rfl 0 rfl mw_code_X11_keepsAct mw_ini_11 mw_ml_11_362 mw_inst_X11_keepsAct mw_sel_X11_keepsAct hd_X11_keepsAct ⟨Nat.le_trans (by decide) hfr, Nat.le_trans (by decide) hlo⟩ rfl rfl rfl (Nat.le_of_ble_eq_true rfl) dX11_step_23 (fun zz12 H locs hp14 G => ?_)
      obtain ⟨oo15, kk16⟩ := hp14
      have kk17 : KM z zz12 := KF.tr KF.rf kk16
      refine lv_aload_n E.1 E.2.1 dX11_step_26 rfl (lv_at hl 0 rfl) ?_
      refine t_vi E G hl (v_passes l D K ad zz12 oo15 (wf_ka wf kk17.2.1 rfl rfl rfl rfl)) 11 (rfl : ro 386 = 11) (by decide) rfl rfl 0 rfl mw_code_X11_passes mw_ini_11 mw_ml_11_356 mw_inst_X11_passes mw_sel_X11_passes hd_X11_passes ⟨Nat.le_trans (by decide) hfr, Nat.le_trans (by decide) hlo⟩ rfl rfl rfl (Nat.le_of_ble_eq_true rfl) dX11_step_27 (fun r19 zz18 H locs hp20 G => ?_)
      obtain ⟨oo21, kk22⟩ := hp20
      have kk23 : KM z zz18 := KF.tr kk17 kk22
      exact RET G ⟨oo21, kk23⟩ rfl dX11_step_30
    · skip
      have b24 : iv 999 999 v9 := iv_eq c11 (iv_lit (lo := 999) (hi := 999) 999 (by decide) (by decide))
      refine lv_iconst (v := (-1)) E.1 E.2.1 dX11_step_20 (by decide) ?_
      exact RET G ⟨o, KF.rf⟩ rfl dX11_step_21
