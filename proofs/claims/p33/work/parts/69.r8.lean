theorem mw_code_X11_bits : (Cond.code yX11_bits cX11_bits 3 (some .int) : Cond) ∈ cw := cw_of (List.mem_append_right _ (List.mem_append_right _ (List.mem_append_right _ (List.mem_append_right _ (List.mem_append_right _ (List.mem_append_right _ (List.mem_append_right _ (List.mem_append_left _ (List.mem_of_getElem? (i := 145) rfl))))))))) (by decide +kernel)
theorem mw_code_X11_covers : (Cond.code yX11_covers cX11_covers 3 (some .boolean) : Cond) ∈ cw := cw_of (List.mem_append_right _ (List.mem_append_right _ (List.mem_append_right _ (List.mem_append_right _ (List.mem_append_right _ (List.mem_append_right _ (List.mem_append_right _ (List.mem_append_left _ (List.mem_of_getElem? (i := 149) rfl))))))))) (by decide +kernel)
theorem mw_code_X11_illCorners : (Cond.code yX11_illCorners cX11_illCorners 4 (some .int) : Cond) ∈ cw := cw_of (List.mem_append_right _ (List.mem_append_right _ (List.mem_append_right _ (List.mem_append_right _ (List.mem_append_right _ (List.mem_append_right _ (List.mem_append_right _ (List.mem_append_left _ (List.mem_of_getElem? (i := 113) rfl))))))))) (by decide +kernel)
theorem mw_code_X11_isTown : (Cond.code yX11_isTown cX11_isTown 1 (some .boolean) : Cond) ∈ cw := cw_of (List.mem_append_right _ (List.mem_append_right _ (List.mem_append_right _ (List.mem_append_right _ (List.mem_append_right _ (List.mem_append_right _ (List.mem_append_left _ (List.mem_of_getElem? (i := 217) rfl)))))))) (by decide +kernel)
theorem mw_inst_X11_covers : (Cond.instanceMethod yX11_covers : Cond) ∈ cw := cw_of (List.mem_append_right _ (List.mem_append_right _ (List.mem_append_right _ (List.mem_append_right _ (List.mem_append_right _ (List.mem_append_right _ (List.mem_append_right _ (List.mem_append_left _ (List.mem_of_getElem? (i := 148) (by decide +kernel)))))))))) (by decide +kernel)
theorem mw_inst_X11_illCorners : (Cond.instanceMethod yX11_illCorners : Cond) ∈ cw := cw_of (List.mem_append_right _ (List.mem_append_right _ (List.mem_append_right _ (List.mem_append_right _ (List.mem_append_right _ (List.mem_append_right _ (List.mem_append_right _ (List.mem_append_left _ (List.mem_of_getElem? (i := 112) (by decide +kernel)))))))))) (by decide +kernel)
theorem mw_inst_X11_isTown : (Cond.instanceMethod yX11_isTown : Cond) ∈ cw := cw_of (List.mem_append_right _ (List.mem_append_right _ (List.mem_append_right _ (List.mem_append_right _ (List.mem_append_right _ (List.mem_append_right _ (List.mem_append_left _ (List.mem_of_getElem? (i := 216) (by decide +kernel))))))))) (by decide +kernel)
theorem mw_ml_11_359 : (Cond.methodLink RX11 359 yX11_isTown : Cond) ∈ cw := cw_of (List.mem_append_right _ (List.mem_append_right _ (List.mem_append_right _ (List.mem_append_right _ (List.mem_append_right _ (List.mem_append_right _ (List.mem_append_left _ (List.mem_of_getElem? (i := 214) (by decide +kernel))))))))) (by decide +kernel)
theorem mw_ml_11_391 : (Cond.methodLink RX11 391 yX11_illCorners : Cond) ∈ cw := cw_of (List.mem_append_right _ (List.mem_append_right _ (List.mem_append_right _ (List.mem_append_right _ (List.mem_append_right _ (List.mem_append_right _ (List.mem_append_right _ (List.mem_append_left _ (List.mem_of_getElem? (i := 110) (by decide +kernel)))))))))) (by decide +kernel)
theorem mw_ml_11_406 : (Cond.methodLink RX11 406 yX11_bits : Cond) ∈ cw := cw_of (List.mem_append_right _ (List.mem_append_right _ (List.mem_append_right _ (List.mem_append_right _ (List.mem_append_right _ (List.mem_append_right _ (List.mem_append_right _ (List.mem_append_left _ (List.mem_of_getElem? (i := 143) (by decide +kernel)))))))))) (by decide +kernel)
theorem mw_ml_11_409 : (Cond.methodLink RX11 409 yX11_covers : Cond) ∈ cw := cw_of (List.mem_append_right _ (List.mem_append_right _ (List.mem_append_right _ (List.mem_append_right _ (List.mem_append_right _ (List.mem_append_right _ (List.mem_append_right _ (List.mem_append_left _ (List.mem_of_getElem? (i := 146) (by decide +kernel)))))))))) (by decide +kernel)
theorem mw_sel_X11_covers : (Cond.selects RX11 yX11_covers yX11_covers : Cond) ∈ cw := cw_of (List.mem_append_left _ (List.mem_of_getElem? (i := 114) (by decide +kernel))) (by decide +kernel)
theorem mw_sel_X11_illCorners : (Cond.selects RX11 yX11_illCorners yX11_illCorners : Cond) ∈ cw := cw_of (List.mem_append_left _ (List.mem_of_getElem? (i := 110) (by decide +kernel))) (by decide +kernel)
theorem mw_sel_X11_isTown : (Cond.selects RX11 yX11_isTown yX11_isTown : Cond) ∈ cw := cw_of (List.mem_append_left _ (List.mem_of_getElem? (i := 89) (by decide +kernel))) (by decide +kernel)
theorem mw_stat_X11_bits : (Cond.static yX11_bits : Cond) ∈ cw := cw_of (List.mem_append_right _ (List.mem_append_right _ (List.mem_append_right _ (List.mem_append_right _ (List.mem_append_right _ (List.mem_append_right _ (List.mem_append_right _ (List.mem_append_left _ (List.mem_of_getElem? (i := 144) (by decide +kernel)))))))))) (by decide +kernel)
theorem dX11_cover_0 : decode cX11_cover 0 = .ok (.aload_n 0, 1) := by decide +kernel
theorem dX11_cover_1 : decode cX11_cover 1 = .ok (.invokevirtual 359, 3) := by decide +kernel
theorem dX11_cover_4 : decode cX11_cover 4 = .ok (.ifCond .eq 13, 3) := by decide +kernel
theorem dX11_cover_7 : decode cX11_cover 7 = .ok (.iload_n 1, 1) := by decide +kernel
theorem dX11_cover_8 : decode cX11_cover 8 = .ok (.i2l, 1) := by decide +kernel
theorem dX11_cover_9 : decode cX11_cover 9 = .ok (.lconst 0, 1) := by decide +kernel
theorem dX11_cover_10 : decode cX11_cover 10 = .ok (.lconst 1, 1) := by decide +kernel
theorem dX11_cover_11 : decode cX11_cover 11 = .ok (.invokestatic 121, 3) := by decide +kernel
theorem dX11_cover_14 : decode cX11_cover 14 = .ok (.ifCond .ne 5, 3) := by decide +kernel
theorem dX11_cover_17 : decode cX11_cover 17 = .ok (.iconst (-1), 1) := by decide +kernel
theorem dX11_cover_18 : decode cX11_cover 18 = .ok (.ireturn, 1) := by decide +kernel
theorem dX11_cover_19 : decode cX11_cover 19 = .ok (.iconst (-1), 1) := by decide +kernel
theorem dX11_cover_20 : decode cX11_cover 20 = .ok (.istore_n 2, 1) := by decide +kernel
theorem dX11_cover_21 : decode cX11_cover 21 = .ok (.iconst 0, 1) := by decide +kernel
theorem dX11_cover_22 : decode cX11_cover 22 = .ok (.istore_n 3, 1) := by decide +kernel
theorem dX11_cover_23 : decode cX11_cover 23 = .ok (.iload_n 3, 1) := by decide +kernel
theorem dX11_cover_24 : decode cX11_cover 24 = .ok (.iconst 1, 1) := by decide +kernel
theorem dX11_cover_25 : decode cX11_cover 25 = .ok (.aload_n 0, 1) := by decide +kernel
theorem dX11_cover_26 : decode cX11_cover 26 = .ok (.getfield 39, 3) := by decide +kernel
theorem dX11_cover_29 : decode cX11_cover 29 = .ok (.iconst 1, 1) := by decide +kernel
theorem dX11_cover_30 : decode cX11_cover 30 = .ok (.iaload, 1) := by decide +kernel
theorem dX11_cover_31 : decode cX11_cover 31 = .ok (.ishl, 1) := by decide +kernel
theorem dX11_cover_32 : decode cX11_cover 32 = .ok (.if_icmp .ge 34, 3) := by decide +kernel
theorem dX11_cover_35 : decode cX11_cover 35 = .ok (.iload_n 2, 1) := by decide +kernel
theorem dX11_cover_36 : decode cX11_cover 36 = .ok (.ifCond .lt 14, 3) := by decide +kernel
theorem dX11_cover_39 : decode cX11_cover 39 = .ok (.iload_n 3, 1) := by decide +kernel
theorem dX11_cover_40 : decode cX11_cover 40 = .ok (.invokestatic 406, 3) := by decide +kernel
theorem dX11_cover_43 : decode cX11_cover 43 = .ok (.iload_n 2, 1) := by decide +kernel
theorem dX11_cover_44 : decode cX11_cover 44 = .ok (.invokestatic 406, 3) := by decide +kernel
theorem dX11_cover_47 : decode cX11_cover 47 = .ok (.if_icmp .ge 13, 3) := by decide +kernel
theorem dX11_cover_50 : decode cX11_cover 50 = .ok (.aload_n 0, 1) := by decide +kernel
theorem dX11_cover_51 : decode cX11_cover 51 = .ok (.iload_n 3, 1) := by decide +kernel
theorem dX11_cover_52 : decode cX11_cover 52 = .ok (.invokevirtual 409, 3) := by decide +kernel
theorem dX11_cover_55 : decode cX11_cover 55 = .ok (.ifCond .eq 5, 3) := by decide +kernel
theorem dX11_cover_58 : decode cX11_cover 58 = .ok (.iload_n 3, 1) := by decide +kernel
theorem dX11_cover_59 : decode cX11_cover 59 = .ok (.istore_n 2, 1) := by decide +kernel
theorem dX11_cover_60 : decode cX11_cover 60 = .ok (.iinc 3 1, 3) := by decide +kernel
theorem dX11_cover_63 : decode cX11_cover 63 = .ok (.goto (-40), 3) := by decide +kernel
theorem dX11_cover_66 : decode cX11_cover 66 = .ok (.iload_n 1, 1) := by decide +kernel
theorem dX11_cover_67 : decode cX11_cover 67 = .ok (.ifCond .ne 10, 3) := by decide +kernel
theorem dX11_cover_70 : decode cX11_cover 70 = .ok (.iload_n 2, 1) := by decide +kernel
theorem dX11_cover_71 : decode cX11_cover 71 = .ok (.invokestatic 406, 3) := by decide +kernel
theorem dX11_cover_74 : decode cX11_cover 74 = .ok (.goto 4, 3) := by decide +kernel
theorem dX11_cover_77 : decode cX11_cover 77 = .ok (.iload_n 2, 1) := by decide +kernel
theorem dX11_cover_78 : decode cX11_cover 78 = .ok (.ireturn, 1) := by decide +kernel
theorem dX11_safe_0 : decode cX11_safe 0 = .ok (.aload_n 0, 1) := by decide +kernel
theorem dX11_safe_1 : decode cX11_safe 1 = .ok (.iload_n 1, 1) := by decide +kernel
theorem dX11_safe_2 : decode cX11_safe 2 = .ok (.invokevirtual 317, 3) := by decide +kernel
theorem dX11_safe_5 : decode cX11_safe 5 = .ok (.ifCond .eq 32, 3) := by decide +kernel
theorem dX11_safe_8 : decode cX11_safe 8 = .ok (.aload_n 0, 1) := by decide +kernel
theorem dX11_safe_9 : decode cX11_safe 9 = .ok (.aload_n 0, 1) := by decide +kernel
theorem dX11_safe_10 : decode cX11_safe 10 = .ok (.iload_n 1, 1) := by decide +kernel
theorem dX11_safe_11 : decode cX11_safe 11 = .ok (.invokevirtual 291, 3) := by decide +kernel
theorem dX11_safe_14 : decode cX11_safe 14 = .ok (.aload_n 0, 1) := by decide +kernel
theorem dX11_safe_15 : decode cX11_safe 15 = .ok (.getfield 39, 3) := by decide +kernel
theorem dX11_safe_18 : decode cX11_safe 18 = .ok (.bipush 56, 2) := by decide +kernel
theorem dX11_safe_20 : decode cX11_safe 20 = .ok (.iload_n 1, 1) := by decide +kernel
theorem dX11_safe_21 : decode cX11_safe 21 = .ok (.iadd, 1) := by decide +kernel
theorem dX11_safe_22 : decode cX11_safe 22 = .ok (.iaload, 1) := by decide +kernel
theorem dX11_safe_23 : decode cX11_safe 23 = .ok (.aload_n 0, 1) := by decide +kernel
theorem dX11_safe_24 : decode cX11_safe 24 = .ok (.iload_n 1, 1) := by decide +kernel
theorem dX11_safe_25 : decode cX11_safe 25 = .ok (.invokevirtual 391, 3) := by decide +kernel
theorem dX11_safe_28 : decode cX11_safe 28 = .ok (.invokevirtual 304, 3) := by decide +kernel
theorem dX11_safe_31 : decode cX11_safe 31 = .ok (.invokestatic 388, 3) := by decide +kernel
theorem dX11_safe_34 : decode cX11_safe 34 = .ok (.goto 4, 3) := by decide +kernel
theorem dX11_safe_37 : decode cX11_safe 37 = .ok (.iconst (-1), 1) := by decide +kernel
theorem dX11_safe_38 : decode cX11_safe 38 = .ok (.ireturn, 1) := by decide +kernel
theorem hd_X11_bits : yX11_bits.cls ≠ "java/lang/invoke/MethodHandle" ∧ yX11_bits.cls ≠ "java/lang/invoke/VarHandle" ∧ (parseMethodDescriptor yX11_bits.desc).map (fun d => d.parameters.length) = some 1 := ⟨by decide +kernel, by decide +kernel, by decide +kernel⟩
theorem hd_X11_covers : yX11_covers.cls ≠ "java/lang/invoke/MethodHandle" ∧ yX11_covers.cls ≠ "java/lang/invoke/VarHandle" ∧ (parseMethodDescriptor yX11_covers.desc).map (fun d => d.parameters.length) = some 1 := ⟨by decide +kernel, by decide +kernel, by decide +kernel⟩
theorem hd_X11_illCorners : yX11_illCorners.cls ≠ "java/lang/invoke/MethodHandle" ∧ yX11_illCorners.cls ≠ "java/lang/invoke/VarHandle" ∧ (parseMethodDescriptor yX11_illCorners.desc).map (fun d => d.parameters.length) = some 1 := ⟨by decide +kernel, by decide +kernel, by decide +kernel⟩
theorem hd_X11_isTown : yX11_isTown.cls ≠ "java/lang/invoke/MethodHandle" ∧ yX11_isTown.cls ≠ "java/lang/invoke/VarHandle" ∧ (parseMethodDescriptor yX11_isTown.desc).map (fun d => d.parameters.length) = some 0 := ⟨by decide +kernel, by decide +kernel, by decide +kernel⟩
set_option maxHeartbeats 4000000 in
set_option maxRecDepth 100000 in
theorem v_safe (l : Launch) (D : va_G) (K : Nat → ClassId) (ad : Nat → Nat) (z : TS) (o : Ok z) (x1 : Int32) : cI l yX11_safe cX11_safe 2 .int ({ frames := 3, cells := 0, slots := 0, locals := 70 }) D K ad z [.ref (ad 386), .int x1] (fun r u => u = z) := by
  refine t_enterI (by decide) (Nat.le_of_ble_eq_true rfl) rfl rfl ?_
  intro p e s m args below meth c A R Q H locs ls E hfr hlo RET G hl
  have E : mE p s m meth c cX11_safe args 2 RX11 D K A := E
  have hl : lv_has ls 2 [(0, .ref (ad 386)), (1, .int x1)] := hl
  refine lv_aload_n E.1 E.2.1 dX11_safe_0 rfl (lv_at hl 0 rfl) ?_
  refine lv_iload_n E.1 E.2.1 dX11_safe_1 rfl (lv_at hl 1 rfl) ?_
  refine t_vi E G hl (v_isWalker l D K ad z o x1) 11 (rfl : ro 386 = 11) (by decide) rfl rfl 1 rfl mw_code_X11_isWalker mw_ini_11 mw_ml_11_317 mw_inst_X11_isWalker mw_sel_X11_isWalker hd_X11_isWalker ⟨Nat.le_trans (by decide) hfr, Nat.le_trans (by decide) hlo⟩ rfl rfl rfl (Nat.le_of_ble_eq_true rfl) dX11_safe_2 (fun r2 zz1 H locs hp3 G => ?_)
  obtain ⟨hz6, b4, h5⟩ := hp3
  rw [hz6] at G
  refine lv_if_eq (tgt := 37) E.1 E.2.1 dX11_safe_5 (by decide) (fun c7 => ?_) (fun c7 => ?_)
  · skip
    have b8 : iv 0 0 r2 := iv_eq c7 (iv_lit (lo := 0) (hi := 0) 0 (by decide) (by decide))
    refine lv_iconst (v := (-1)) E.1 E.2.1 dX11_safe_37 (by decide) ?_
    exact RET G rfl rfl dX11_safe_38
  · skip
    have b9 : iv 1 1 r2 := ne_lo c7 b4 (by decide) (by decide)
    have b10 : iv 0 4 x1 := h5 c7
    refine lv_aload_n E.1 E.2.1 dX11_safe_8 rfl (lv_at hl 0 rfl) ?_
    refine lv_aload_n E.1 E.2.1 dX11_safe_9 rfl (lv_at hl 0 rfl) ?_
    refine lv_iload_n E.1 E.2.1 dX11_safe_10 rfl (lv_at hl 1 rfl) ?_
    refine t_vi E G hl (v_cornerOf l D K ad z o x1 (iv_mono b10 (by decide) (by decide))) 11 (rfl : ro 386 = 11) (by decide) rfl rfl 1 rfl mw_code_X11_cornerOf mw_ini_11 mw_ml_11_291 mw_inst_X11_cornerOf mw_sel_X11_cornerOf hd_X11_cornerOf ⟨Nat.le_trans (by decide) hfr, Nat.le_trans (by decide) hlo⟩ rfl rfl rfl (Nat.le_of_ble_eq_true rfl) dX11_safe_11 (fun r12 zz11 H locs hp13 G => ?_)
    obtain ⟨hz15, b14⟩ := hp13
    rw [hz15] at G
    refine lv_aload_n E.1 E.2.1 dX11_safe_14 rfl (lv_at hl 0 rfl) ?_
    refine t_get E G 11 20 (rfl : ro 386 = 11) (C := RX11) (T := TX11) (N := 37) rfl (by decide) (by decide) (by decide) mw_fl_11_39 (v := .ref (ad 396)) (fvl_o (n := 10) rfl) dX11_safe_15 ?_
    refine lv_bipush (v := 56) E.1 E.2.1 dX11_safe_18 (by decide) ?_
    refine lv_iload_n E.1 E.2.1 dX11_safe_20 rfl (lv_at hl 1 rfl) ?_
    refine lv_iadd E.1 E.2.1 dX11_safe_21 ?_
    refine lv_topi (fun v16 e17 => ?_)
    have b18 : iv 56 60 v16 := by rw [e17]; exact iv_add (iv_lit (lo := 56) (hi := 56) 56 (by decide) (by decide)) b10 (by decide) (by decide) (by decide) (by decide)
    have l19 : v16.toInt = 56 + 1 * x1.toInt := (show v16.toInt = 56 + x1.toInt by rw [e17]; exact ti_cadd 56 (by decide) b10 (by decide) (by decide)).trans (by omega)
    refine t_iald E G 54 (rfl : ro 396 = 54) (by decide) (by decide) rfl (n := 127) rfl (iv_vp b18 (by decide) (by decide)) dX11_safe_22 ?_
    refine lv_topi (fun v20 e21 => ?_)
    have b22 : iv 0 7 v20 := by rw [e21]; exact rd1 o 54 (rfl : ro 396 = 54) 56 1 0 4 b10 (l19.trans (by omega)) (by decide +kernel)
    refine lv_aload_n E.1 E.2.1 dX11_safe_23 rfl (lv_at hl 0 rfl) ?_
    refine lv_iload_n E.1 E.2.1 dX11_safe_24 rfl (lv_at hl 1 rfl) ?_
    refine t_vi E G hl (v_illCorners l D K ad z o x1 (iv_mono b10 (by decide) (by decide))) 11 (rfl : ro 386 = 11) (by decide) rfl rfl 1 rfl mw_code_X11_illCorners mw_ini_11 mw_ml_11_391 mw_inst_X11_illCorners mw_sel_X11_illCorners hd_X11_illCorners ⟨Nat.le_trans (by decide) hfr, Nat.le_trans (by decide) hlo⟩ rfl rfl rfl (Nat.le_of_ble_eq_true rfl) dX11_safe_25 (fun r24 zz23 H locs hp25 G => ?_)
    have hz26 := hp25
    rw [hz26] at G
    refine t_vi E G hl (v_waysBut l D K ad z o r12 v20 r24) 11 (rfl : ro 386 = 11) (by decide) rfl rfl 3 rfl mw_code_X11_waysBut mw_ini_11 mw_ml_11_304 mw_inst_X11_waysBut mw_sel_X11_waysBut hd_X11_waysBut ⟨Nat.le_trans (by decide) hfr, Nat.le_trans (by decide) hlo⟩ rfl rfl rfl (Nat.le_of_ble_eq_true rfl) dX11_safe_28 (fun r28 zz27 H locs hp29 G => ?_)
    obtain ⟨hz31, b30⟩ := hp29
    rw [hz31] at G
    refine t_si E G hl (v_waysTold l D K ad z o r28) 1 rfl mw_code_X11_waysTold mw_ini_11 mw_ml_11_388 mw_stat_X11_waysTold hd_X11_waysTold ⟨Nat.le_trans (by decide) hfr, Nat.le_trans (by decide) hlo⟩ rfl rfl rfl (Nat.le_of_ble_eq_true rfl) dX11_safe_31 (fun r33 zz32 H locs hp34 G => ?_)
    have hz35 := hp34
    rw [hz35] at G
    refine lv_goto (tgt := 38) E.1 E.2.1 dX11_safe_34 (by decide) ?_
    exact RET G rfl rfl dX11_safe_38
set_option maxHeartbeats 4000000 in
set_option maxRecDepth 100000 in
theorem v_cover (l : Launch) (D : va_G) (K : Nat → ClassId) (ad : Nat → Nat) (z : TS) (o : Ok z) (x1 : Int32) : cI l yX11_cover cX11_cover 4 .int ({ frames := 2, cells := 0, slots := 0, locals := 43 }) D K ad z [.ref (ad 386), .int x1] (fun r u => u = z) := by
  refine t_enterI (by decide) (Nat.le_of_ble_eq_true rfl) rfl rfl ?_
  intro p e s m args below meth c A R Q H locs ls E hfr hlo RET G hl
  have E : mE p s m meth c cX11_cover args 4 RX11 D K A := E
  have hl : lv_has ls 4 [(0, .ref (ad 386)), (1, .int x1)] := hl
  refine lv_aload_n E.1 E.2.1 dX11_cover_0 rfl (lv_at hl 0 rfl) ?_
  refine t_vi E G hl (v_isTown l D K ad z o) 11 (rfl : ro 386 = 11) (by decide) rfl rfl 0 rfl mw_code_X11_isTown mw_ini_11 mw_ml_11_359 mw_inst_X11_isTown mw_sel_X11_isTown hd_X11_isTown ⟨Nat.le_trans (by decide) hfr, Nat.le_trans (by decide) hlo⟩ rfl rfl rfl (Nat.le_of_ble_eq_true rfl) dX11_cover_1 (fun r2 zz1 H locs hp3 G => ?_)
  obtain ⟨hz5, b4⟩ := hp3
  rw [hz5] at G
  refine lv_if_eq (tgt := 17) E.1 E.2.1 dX11_cover_4 (by decide) (fun c6 => ?_) (fun c6 => ?_)
  · skip
    have b7 : iv 0 0 r2 := iv_eq c6 (iv_lit (lo := 0) (hi := 0) 0 (by decide) (by decide))
    refine lv_iconst (v := (-1)) E.1 E.2.1 dX11_cover_17 (by decide) ?_
    exact RET G rfl rfl dX11_cover_18
  · skip
    have b8 : iv 1 1 r2 := ne_lo c6 b4 (by decide) (by decide)
    refine lv_iload_n E.1 E.2.1 dX11_cover_7 rfl (lv_at hl 1 rfl) ?_
    refine lv_i2l E.1 E.2.1 dX11_cover_8 rfl ?_
    refine lv_topl (fun v9 e10 => ?_)
    refine lv_lconst (v := 0) E.1 E.2.1 dX11_cover_9 (by decide) ?_
    refine lv_lconst (v := 1) E.1 E.2.1 dX11_cover_10 (by decide) ?_
    refine t_si E G hl (v_in l D K ad z o v9 0 1) 3 rfl mw_code_X11_in mw_ini_11 mw_ml_11_121 mw_stat_X11_in hd_X11_in ⟨Nat.le_trans (by decide) hfr, Nat.le_trans (by decide) hlo⟩ rfl rfl rfl (Nat.le_of_ble_eq_true rfl) dX11_cover_11 (fun r12 zz11 H locs hp13 G => ?_)
    obtain ⟨hz16, b14, h15⟩ := hp13
    rw [hz16] at G
    refine lv_if_ne (tgt := 19) E.1 E.2.1 dX11_cover_14 (by decide) (fun c17 => ?_) (fun c17 => ?_)
    · skip
      have b18 : iv 1 1 r12 := ne_lo c17 b14 (by decide) (by decide)
      have b19 : iv 0 1 x1 := (fun q => in_iv e10 (h15 q) (by decide) (by decide)) c17
      refine lv_iconst (v := (-1)) E.1 E.2.1 dX11_cover_19 (by decide) ?_
      refine lv_istore_n (lv' := [(2, .int (-1)), (0, .ref (ad 386)), (1, .int x1)]) E.1 E.2.1 dX11_cover_20 rfl hl (by decide) rfl (fun ls hl => ?_)
      refine lv_iconst (v := 0) E.1 E.2.1 dX11_cover_21 (by decide) ?_
      refine lv_istore_n (lv' := [(3, .int 0), (2, .int (-1)), (0, .ref (ad 386)), (1, .int x1)]) E.1 E.2.1 dX11_cover_22 rfl hl (by decide) rfl (fun ls hl => ?_)
      have LOOP23 : ∀ n : Nat, ∀ (y20 : Int32) (y21 : Int32) (H : Heap) (locs : List Loc) (ls : Array Slot), mG D A s H locs (wd K ad z) → iv 0 256 y20 → iv (-1) 255 y21 → 256 < y20.toInt + (n : Int) → lv_has ls 4 [(3, .int y20), (2, .int y21), (0, .ref (ad 386)), (1, .int x1)] → W p l e R s m args below meth c H locs 0 0 Q (F0 m 23 ls []) := by
        intro n
        induction n with
        | zero =>
          intro y20 y21 H locs ls G b26 b27 m25 hl
          exact absurd m25 (by have := b26.1; have := b26.2; omega)
        | succ n ih23 =>
          intro y20 y21 H locs ls G b26 b27 m25 hl
          refine lv_iload_n E.1 E.2.1 dX11_cover_23 rfl (lv_at hl 0 rfl) ?_
          refine lv_iconst (v := 1) E.1 E.2.1 dX11_cover_24 (by decide) ?_
          refine lv_aload_n E.1 E.2.1 dX11_cover_25 rfl (lv_at hl 2 rfl) ?_
          refine t_get E G 11 20 (rfl : ro 386 = 11) (C := RX11) (T := TX11) (N := 37) rfl (by decide) (by decide) (by decide) mw_fl_11_39 (v := .ref (ad 396)) (fvl_o (n := 10) rfl) dX11_cover_26 ?_
          refine lv_iconst (v := 1) E.1 E.2.1 dX11_cover_29 (by decide) ?_
          refine t_iald E G 54 (rfl : ro 396 = 54) (by decide) (by decide) rfl (n := 127) rfl (by unfold vp_in; decide) dX11_cover_30 ?_
          refine lv_topi (fun v28 e29 => ?_)
          have b30 : iv 0 8 v28 := by rw [e29]; exact iv_mono (o.a 54 (rfl : ro 396 = 54) _) (by decide +kernel) (by decide +kernel)
          refine lv_ishl E.1 E.2.1 dX11_cover_31 ?_
          refine lv_topi (fun v31 e32 => ?_)
          have b33 : iv 1 256 v31 := by rw [e32]; exact iv_shl8 (iv_mono b30 (by decide) (by decide))
          refine lv_icmp_ge (tgt := 66) E.1 E.2.1 dX11_cover_32 (by decide) (fun c34 => ?_) (fun c34 => ?_)
          · skip
            have b35 : iv 1 256 y20 := le_r c34 b33 b26 (by decide)
            refine lv_iload_n E.1 E.2.1 dX11_cover_66 rfl (lv_at hl 3 rfl) ?_
            refine lv_if_ne (tgt := 77) E.1 E.2.1 dX11_cover_67 (by decide) (fun c36 => ?_) (fun c36 => ?_)
            · skip
              have b37 : iv 1 1 x1 := ne_lo c36 b19 (by decide) (by decide)
              refine lv_iload_n E.1 E.2.1 dX11_cover_77 rfl (lv_at hl 1 rfl) ?_
              exact RET G rfl rfl dX11_cover_78
            · skip
              have b38 : iv 0 0 x1 := iv_eq c36 (iv_lit (lo := 0) (hi := 0) 0 (by decide) (by decide))
              refine lv_iload_n E.1 E.2.1 dX11_cover_70 rfl (lv_at hl 1 rfl) ?_
              refine t_si E G hl (v_bits l D K ad z o y21) 1 rfl mw_code_X11_bits mw_ini_11 mw_ml_11_406 mw_stat_X11_bits hd_X11_bits ⟨Nat.le_trans (by decide) hfr, Nat.le_trans (by decide) hlo⟩ rfl rfl rfl (Nat.le_of_ble_eq_true rfl) dX11_cover_71 (fun r40 zz39 H locs hp41 G => ?_)
              have hz42 := hp41
              rw [hz42] at G
              refine lv_goto (tgt := 78) E.1 E.2.1 dX11_cover_74 (by decide) ?_
              exact RET G rfl rfl dX11_cover_78
          · skip
            have b43 : iv 0 255 y20 := lt_l (Int32.not_le.mp c34) b26 b33 (by decide)
            refine lv_iload_n E.1 E.2.1 dX11_cover_35 rfl (lv_at hl 1 rfl) ?_
            refine lv_if_lt (tgt := 50) E.1 E.2.1 dX11_cover_36 (by decide) (fun c44 => ?_) (fun c44 => ?_)
            · skip
              have b45 : iv (-1) (-1) y21 := lt_l c44 b27 (iv_lit (lo := 0) (hi := 0) 0 (by decide) (by decide)) (by decide)
              refine lv_aload_n E.1 E.2.1 dX11_cover_50 rfl (lv_at hl 2 rfl) ?_
              refine lv_iload_n E.1 E.2.1 dX11_cover_51 rfl (lv_at hl 0 rfl) ?_
              refine t_vi E G hl (v_covers l D K ad z o y20) 11 (rfl : ro 386 = 11) (by decide) rfl rfl 1 rfl mw_code_X11_covers mw_ini_11 mw_ml_11_409 mw_inst_X11_covers mw_sel_X11_covers hd_X11_covers ⟨Nat.le_trans (by decide) hfr, Nat.le_trans (by decide) hlo⟩ rfl rfl rfl (Nat.le_of_ble_eq_true rfl) dX11_cover_52 (fun r47 zz46 H locs hp48 G => ?_)
              obtain ⟨hz50, b49⟩ := hp48
              rw [hz50] at G
              refine lv_if_eq (tgt := 60) E.1 E.2.1 dX11_cover_55 (by decide) (fun c51 => ?_) (fun c51 => ?_)
              · skip
                have b52 : iv 0 0 r47 := iv_eq c51 (iv_lit (lo := 0) (hi := 0) 0 (by decide) (by decide))
                obtain ⟨v53, e54⟩ : ∃ w : Int32, w = y20 + (1 : Int32) := ⟨_, rfl⟩
                refine lv_iinc (v := v53) (lv' := [(3, .int v53), (2, .int y21), (0, .ref (ad 386)), (1, .int x1)]) E.1 E.2.1 dX11_cover_60 hl (k := 0) rfl (by rw [e54]; rfl) (by decide) rfl (fun ls hl => ?_)
                have b55 : iv 1 256 v53 := by rw [e54]; exact iv_add b43 (iv_lit (lo := 1) (hi := 1) 1 (by decide) (by decide)) (by decide) (by decide) (by decide) (by decide)
                have t56 : v53.toInt = y20.toInt + 1 := by rw [e54]; exact ti_addc 1 (by decide) b43 (by decide) (by decide)
                refine lv_goto (tgt := 23) E.1 E.2.1 dX11_cover_63 (by decide) ?_
                exact ih23 v53 y21 H locs ls G (iv_mono b55 (by decide) (by decide)) (iv_mono b45 (by decide) (by decide)) (by have := t56; have := m25; omega) (lv_sub hl [0, 1, 2, 3] rfl)
              · skip
                have b57 : iv 1 1 r47 := ne_lo c51 b49 (by decide) (by decide)
                refine lv_iload_n E.1 E.2.1 dX11_cover_58 rfl (lv_at hl 0 rfl) ?_
                refine lv_istore_n (lv' := [(2, .int y20), (3, .int y20), (0, .ref (ad 386)), (1, .int x1)]) E.1 E.2.1 dX11_cover_59 rfl hl (by decide) rfl (fun ls hl => ?_)
                obtain ⟨v58, e59⟩ : ∃ w : Int32, w = y20 + (1 : Int32) := ⟨_, rfl⟩
                refine lv_iinc (v := v58) (lv' := [(3, .int v58), (2, .int y20), (0, .ref (ad 386)), (1, .int x1)]) E.1 E.2.1 dX11_cover_60 hl (k := 1) rfl (by rw [e59]; rfl) (by decide) rfl (fun ls hl => ?_)
                have b60 : iv 1 256 v58 := by rw [e59]; exact iv_add b43 (iv_lit (lo := 1) (hi := 1) 1 (by decide) (by decide)) (by decide) (by decide) (by decide) (by decide)
                have t61 : v58.toInt = y20.toInt + 1 := by rw [e59]; exact ti_addc 1 (by decide) b43 (by decide) (by decide)
                refine lv_goto (tgt := 23) E.1 E.2.1 dX11_cover_63 (by decide) ?_
                exact ih23 v58 y20 H locs ls G (iv_mono b60 (by decide) (by decide)) (iv_mono b43 (by decide) (by decide)) (by have := t61; have := m25; omega) (lv_sub hl [0, 1, 2, 3] rfl)
            · skip
              have b62 : iv 0 255 y21 := le_r (Int32.not_lt.mp c44) (iv_lit (lo := 0) (hi := 0) 0 (by decide) (by decide)) b27 (by decide)
              refine lv_iload_n E.1 E.2.1 dX11_cover_39 rfl (lv_at hl 0 rfl) ?_
              refine t_si E G hl (v_bits l D K ad z o y20) 1 rfl mw_code_X11_bits mw_ini_11 mw_ml_11_406 mw_stat_X11_bits hd_X11_bits ⟨Nat.le_trans (by decide) hfr, Nat.le_trans (by decide) hlo⟩ rfl rfl rfl (Nat.le_of_ble_eq_true rfl) dX11_cover_40 (fun r64 zz63 H locs hp65 G => ?_)
              have hz66 := hp65
              rw [hz66] at G
              refine lv_iload_n E.1 E.2.1 dX11_cover_43 rfl (lv_at hl 1 rfl) ?_
              refine t_si E G hl (v_bits l D K ad z o y21) 1 rfl mw_code_X11_bits mw_ini_11 mw_ml_11_406 mw_stat_X11_bits hd_X11_bits ⟨Nat.le_trans (by decide) hfr, Nat.le_trans (by decide) hlo⟩ rfl rfl rfl (Nat.le_of_ble_eq_true rfl) dX11_cover_44 (fun r68 zz67 H locs hp69 G => ?_)
              have hz70 := hp69
              rw [hz70] at G
              refine lv_icmp_ge (tgt := 60) E.1 E.2.1 dX11_cover_47 (by decide) (fun c71 => ?_) (fun c71 => ?_)
              · skip
                obtain ⟨v72, e73⟩ : ∃ w : Int32, w = y20 + (1 : Int32) := ⟨_, rfl⟩
                refine lv_iinc (v := v72) (lv' := [(3, .int v72), (2, .int y21), (0, .ref (ad 386)), (1, .int x1)]) E.1 E.2.1 dX11_cover_60 hl (k := 0) rfl (by rw [e73]; rfl) (by decide) rfl (fun ls hl => ?_)
                have b74 : iv 1 256 v72 := by rw [e73]; exact iv_add b43 (iv_lit (lo := 1) (hi := 1) 1 (by decide) (by decide)) (by decide) (by decide) (by decide) (by decide)
                have t75 : v72.toInt = y20.toInt + 1 := by rw [e73]; exact ti_addc 1 (by decide) b43 (by decide) (by decide)
                refine lv_goto (tgt := 23) E.1 E.2.1 dX11_cover_63 (by decide) ?_
                exact ih23 v72 y21 H locs ls G (iv_mono b74 (by decide) (by decide)) (iv_mono b62 (by decide) (by decide)) (by have := t75; have := m25; omega) (lv_sub hl [0, 1, 2, 3] rfl)
              · skip
                have b76 : iv (-2147483648) 2147483646 r64 := lt_l (Int32.not_le.mp c71) (iv_full r64) (iv_full r68) (by decide)
                have b77 : iv (-2147483647) 2147483647 r68 := lt_r (Int32.not_le.mp c71) (iv_full r64) (iv_full r68) (by decide)
                refine lv_aload_n E.1 E.2.1 dX11_cover_50 rfl (lv_at hl 2 rfl) ?_
                refine lv_iload_n E.1 E.2.1 dX11_cover_51 rfl (lv_at hl 0 rfl) ?_
                refine t_vi E G hl (v_covers l D K ad z o y20) 11 (rfl : ro 386 = 11) (by decide) rfl rfl 1 rfl mw_code_X11_covers mw_ini_11 mw_ml_11_409 mw_inst_X11_covers mw_sel_X11_covers hd_X11_covers ⟨Nat.le_trans (by decide) hfr, Nat.le_trans (by decide) hlo⟩ rfl rfl rfl (Nat.le_of_ble_eq_true rfl) dX11_cover_52 (fun r79 zz78 H locs hp80 G => ?_)
                obtain ⟨hz82, b81⟩ := hp80
                rw [hz82] at G
                refine lv_if_eq (tgt := 60) E.1 E.2.1 dX11_cover_55 (by decide) (fun c83 => ?_) (fun c83 => ?_)
                · skip
                  have b84 : iv 0 0 r79 := iv_eq c83 (iv_lit (lo := 0) (hi := 0) 0 (by decide) (by decide))
                  obtain ⟨v85, e86⟩ : ∃ w : Int32, w = y20 + (1 : Int32) := ⟨_, rfl⟩
                  refine lv_iinc (v := v85) (lv' := [(3, .int v85), (2, .int y21), (0, .ref (ad 386)), (1, .int x1)]) E.1 E.2.1 dX11_cover_60 hl (k := 0) rfl (by rw [e86]; rfl) (by decide) rfl (fun ls hl => ?_)
                  have b87 : iv 1 256 v85 := by rw [e86]; exact iv_add b43 (iv_lit (lo := 1) (hi := 1) 1 (by decide) (by decide)) (by decide) (by decide) (by decide) (by decide)
                  have t88 : v85.toInt = y20.toInt + 1 := by rw [e86]; exact ti_addc 1 (by decide) b43 (by decide) (by decide)
                  refine lv_goto (tgt := 23) E.1 E.2.1 dX11_cover_63 (by decide) ?_
                  exact ih23 v85 y21 H locs ls G (iv_mono b87 (by decide) (by decide)) (iv_mono b62 (by decide) (by decide)) (by have := t88; have := m25; omega) (lv_sub hl [0, 1, 2, 3] rfl)
                · skip
                  have b89 : iv 1 1 r79 := ne_lo c83 b81 (by decide) (by decide)
                  refine lv_iload_n E.1 E.2.1 dX11_cover_58 rfl (lv_at hl 0 rfl) ?_
                  refine lv_istore_n (lv' := [(2, .int y20), (3, .int y20), (0, .ref (ad 386)), (1, .int x1)]) E.1 E.2.1 dX11_cover_59 rfl hl (by decide) rfl (fun ls hl => ?_)
                  obtain ⟨v90, e91⟩ : ∃ w : Int32, w = y20 + (1 : Int32) := ⟨_, rfl⟩
                  refine lv_iinc (v := v90) (lv' := [(3, .int v90), (2, .int y20), (0, .ref (ad 386)), (1, .int x1)]) E.1 E.2.1 dX11_cover_60 hl (k := 1) rfl (by rw [e91]; rfl) (by decide) rfl (fun ls hl => ?_)
                  have b92 : iv 1 256 v90 := by rw [e91]; exact iv_add b43 (iv_lit (lo := 1) (hi := 1) 1 (by decide) (by decide)) (by decide) (by decide) (by decide) (by decide)
                  have t93 : v90.toInt = y20.toInt + 1 := by rw [e91]; exact ti_addc 1 (by decide) b43 (by decide) (by decide)
                  refine lv_goto (tgt := 23) E.1 E.2.1 dX11_cover_63 (by decide) ?_
                  exact ih23 v90 y20 H locs ls G (iv_mono b92 (by decide) (by decide)) (iv_mono b43 (by decide) (by decide)) (by have := t93; have := m25; omega) (lv_sub hl [0, 1, 2, 3] rfl)
      exact LOOP23 257 0 (-1) H locs ls G (iv_mono (iv_lit (lo := 0) (hi := 0) 0 (by decide) (by decide)) (by decide) (by decide)) (iv_mono (iv_lit (lo := (-1)) (hi := (-1)) (-1) (by decide) (by decide)) (by decide) (by decide)) (by have := (iv_lit (lo := 0) (hi := 0) 0 (by decide) (by decide)).1; omega) (lv_sub hl [0, 1, 2, 3] rfl)
    · skip
      have b94 : iv 0 0 r12 := iv_eq c17 (iv_lit (lo := 0) (hi := 0) 0 (by decide) (by decide))
      refine lv_iconst (v := (-1)) E.1 E.2.1 dX11_cover_17 (by decide) ?_
      exact RET G rfl rfl dX11_cover_18
