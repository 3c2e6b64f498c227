theorem mw_cI_11_167 : (Cond.constant RX11 167 (99999) : Cond) ∈ cw := cw_of (List.mem_append_right _ (List.mem_append_right _ (List.mem_append_right _ (List.mem_append_right _ (List.mem_append_right _ (List.mem_append_right _ (List.mem_append_left _ (List.mem_of_getElem? (i := 84) (by decide +kernel))))))))) (by decide +kernel)
theorem mw_code_X11_makes : (Cond.code yX11_makes cX11_makes 2 (some .boolean) : Cond) ∈ cw := cw_of (List.mem_append_right _ (List.mem_append_right _ (List.mem_append_right _ (List.mem_append_right _ (List.mem_append_right _ (List.mem_append_right _ (List.mem_append_left _ (List.mem_of_getElem? (i := 88) rfl)))))))) (by decide +kernel)
theorem mw_code_X11_puts : (Cond.code yX11_puts cX11_puts 3 none : Cond) ∈ cw := cw_of (List.mem_append_right _ (List.mem_append_right _ (List.mem_append_right _ (List.mem_append_right _ (List.mem_append_right _ (List.mem_append_right _ (List.mem_append_left _ (List.mem_of_getElem? (i := 92) rfl)))))))) (by decide +kernel)
theorem mw_code_X11_wordHere : (Cond.code yX11_wordHere cX11_wordHere 1 (some .int) : Cond) ∈ cw := cw_of (List.mem_append_right _ (List.mem_append_right _ (List.mem_append_right _ (List.mem_append_right _ (List.mem_append_right _ (List.mem_append_right _ (List.mem_append_left _ (List.mem_of_getElem? (i := 96) rfl)))))))) (by decide +kernel)
theorem mw_inst_X11_makes : (Cond.instanceMethod yX11_makes : Cond) ∈ cw := cw_of (List.mem_append_right _ (List.mem_append_right _ (List.mem_append_right _ (List.mem_append_right _ (List.mem_append_right _ (List.mem_append_right _ (List.mem_append_left _ (List.mem_of_getElem? (i := 87) (by decide +kernel))))))))) (by decide +kernel)
theorem mw_inst_X11_puts : (Cond.instanceMethod yX11_puts : Cond) ∈ cw := cw_of (List.mem_append_right _ (List.mem_append_right _ (List.mem_append_right _ (List.mem_append_right _ (List.mem_append_right _ (List.mem_append_right _ (List.mem_append_left _ (List.mem_of_getElem? (i := 91) (by decide +kernel))))))))) (by decide +kernel)
theorem mw_inst_X11_wordHere : (Cond.instanceMethod yX11_wordHere : Cond) ∈ cw := cw_of (List.mem_append_right _ (List.mem_append_right _ (List.mem_append_right _ (List.mem_append_right _ (List.mem_append_right _ (List.mem_append_right _ (List.mem_append_left _ (List.mem_of_getElem? (i := 95) (by decide +kernel))))))))) (by decide +kernel)
theorem mw_ml_11_163 : (Cond.methodLink RX11 163 yX11_puts : Cond) ∈ cw := cw_of (List.mem_append_right _ (List.mem_append_right _ (List.mem_append_right _ (List.mem_append_right _ (List.mem_append_right _ (List.mem_append_right _ (List.mem_append_left _ (List.mem_of_getElem? (i := 89) (by decide +kernel))))))))) (by decide +kernel)
theorem mw_ml_11_171 : (Cond.methodLink RX11 171 yX11_makes : Cond) ∈ cw := cw_of (List.mem_append_right _ (List.mem_append_right _ (List.mem_append_right _ (List.mem_append_right _ (List.mem_append_right _ (List.mem_append_right _ (List.mem_append_left _ (List.mem_of_getElem? (i := 85) (by decide +kernel))))))))) (by decide +kernel)
theorem mw_ml_11_174 : (Cond.methodLink RX11 174 yX11_wordHere : Cond) ∈ cw := cw_of (List.mem_append_right _ (List.mem_append_right _ (List.mem_append_right _ (List.mem_append_right _ (List.mem_append_right _ (List.mem_append_right _ (List.mem_append_left _ (List.mem_of_getElem? (i := 93) (by decide +kernel))))))))) (by decide +kernel)
theorem mw_sel_X11_makes : (Cond.selects RX11 yX11_makes yX11_makes : Cond) ∈ cw := cw_of (List.mem_append_left _ (List.mem_of_getElem? (i := 68) (by decide +kernel))) (by decide +kernel)
theorem mw_sel_X11_puts : (Cond.selects RX11 yX11_puts yX11_puts : Cond) ∈ cw := cw_of (List.mem_append_left _ (List.mem_of_getElem? (i := 69) (by decide +kernel))) (by decide +kernel)
theorem mw_sel_X11_wordHere : (Cond.selects RX11 yX11_wordHere yX11_wordHere : Cond) ∈ cw := cw_of (List.mem_append_left _ (List.mem_of_getElem? (i := 70) (by decide +kernel))) (by decide +kernel)
theorem dX11_value_0 : decode cX11_value 0 = .ok (.aload_n 0, 1) := by decide +kernel
theorem dX11_value_1 : decode cX11_value 1 = .ok (.invokevirtual 96, 3) := by decide +kernel
theorem dX11_value_4 : decode cX11_value 4 = .ok (.pop, 1) := by decide +kernel
theorem dX11_value_5 : decode cX11_value 5 = .ok (.aload_n 0, 1) := by decide +kernel
theorem dX11_value_6 : decode cX11_value 6 = .ok (.getfield 93, 3) := by decide +kernel
theorem dX11_value_9 : decode cX11_value 9 = .ok (.istore_n 1, 1) := by decide +kernel
theorem dX11_value_10 : decode cX11_value 10 = .ok (.aload_n 0, 1) := by decide +kernel
theorem dX11_value_11 : decode cX11_value 11 = .ok (.aload_n 0, 1) := by decide +kernel
theorem dX11_value_12 : decode cX11_value 12 = .ok (.getfield 93, 3) := by decide +kernel
theorem dX11_value_15 : decode cX11_value 15 = .ok (.invokevirtual 111, 3) := by decide +kernel
theorem dX11_value_18 : decode cX11_value 18 = .ok (.ifCond .eq 34, 3) := by decide +kernel
theorem dX11_value_21 : decode cX11_value 21 = .ok (.aload_n 0, 1) := by decide +kernel
theorem dX11_value_22 : decode cX11_value 22 = .ok (.iconst 0, 1) := by decide +kernel
theorem dX11_value_23 : decode cX11_value 23 = .ok (.ldc 167, 2) := by decide +kernel
theorem dX11_value_25 : decode cX11_value 25 = .ok (.invokevirtual 168, 3) := by decide +kernel
theorem dX11_value_28 : decode cX11_value 28 = .ok (.ifCond .eq 11, 3) := by decide +kernel
theorem dX11_value_31 : decode cX11_value 31 = .ok (.aload_n 0, 1) := by decide +kernel
theorem dX11_value_32 : decode cX11_value 32 = .ok (.iload_n 1, 1) := by decide +kernel
theorem dX11_value_33 : decode cX11_value 33 = .ok (.invokevirtual 171, 3) := by decide +kernel
theorem dX11_value_36 : decode cX11_value 36 = .ok (.ifCond .ne 5, 3) := by decide +kernel
theorem dX11_value_39 : decode cX11_value 39 = .ok (.iconst 0, 1) := by decide +kernel
theorem dX11_value_40 : decode cX11_value 40 = .ok (.ireturn, 1) := by decide +kernel
theorem dX11_value_41 : decode cX11_value 41 = .ok (.aload_n 0, 1) := by decide +kernel
theorem dX11_value_42 : decode cX11_value 42 = .ok (.iconst 0, 1) := by decide +kernel
theorem dX11_value_43 : decode cX11_value 43 = .ok (.aload_n 0, 1) := by decide +kernel
theorem dX11_value_44 : decode cX11_value 44 = .ok (.getfield 118, 3) := by decide +kernel
theorem dX11_value_47 : decode cX11_value 47 = .ok (.invokevirtual 163, 3) := by decide +kernel
theorem dX11_value_50 : decode cX11_value 50 = .ok (.iconst 1, 1) := by decide +kernel
theorem dX11_value_51 : decode cX11_value 51 = .ok (.ireturn, 1) := by decide +kernel
theorem dX11_value_52 : decode cX11_value 52 = .ok (.aload_n 0, 1) := by decide +kernel
theorem dX11_value_53 : decode cX11_value 53 = .ok (.invokevirtual 174, 3) := by decide +kernel
theorem dX11_value_56 : decode cX11_value 56 = .ok (.istore_n 2, 1) := by decide +kernel
theorem dX11_value_57 : decode cX11_value 57 = .ok (.iload_n 2, 1) := by decide +kernel
theorem dX11_value_58 : decode cX11_value 58 = .ok (.ifCond .ge 10, 3) := by decide +kernel
theorem dX11_value_61 : decode cX11_value 61 = .ok (.aload_n 0, 1) := by decide +kernel
theorem dX11_value_62 : decode cX11_value 62 = .ok (.iconst 0, 1) := by decide +kernel
theorem dX11_value_63 : decode cX11_value 63 = .ok (.iload_n 1, 1) := by decide +kernel
theorem dX11_value_64 : decode cX11_value 64 = .ok (.invokevirtual 114, 3) := by decide +kernel
theorem dX11_value_67 : decode cX11_value 67 = .ok (.ireturn, 1) := by decide +kernel
theorem dX11_value_68 : decode cX11_value 68 = .ok (.aload_n 0, 1) := by decide +kernel
theorem dX11_value_69 : decode cX11_value 69 = .ok (.iload_n 1, 1) := by decide +kernel
theorem dX11_value_70 : decode cX11_value 70 = .ok (.invokevirtual 171, 3) := by decide +kernel
theorem dX11_value_73 : decode cX11_value 73 = .ok (.ifCond .ne 5, 3) := by decide +kernel
theorem dX11_value_76 : decode cX11_value 76 = .ok (.iconst 0, 1) := by decide +kernel
theorem dX11_value_77 : decode cX11_value 77 = .ok (.ireturn, 1) := by decide +kernel
theorem dX11_value_78 : decode cX11_value 78 = .ok (.aload_n 0, 1) := by decide +kernel
theorem dX11_value_79 : decode cX11_value 79 = .ok (.invokevirtual 108, 3) := by decide +kernel
theorem dX11_value_82 : decode cX11_value 82 = .ok (.aload_n 0, 1) := by decide +kernel
theorem dX11_value_83 : decode cX11_value 83 = .ok (.iconst 1, 1) := by decide +kernel
theorem dX11_value_84 : decode cX11_value 84 = .ok (.iload_n 2, 1) := by decide +kernel
theorem dX11_value_85 : decode cX11_value 85 = .ok (.invokevirtual 163, 3) := by decide +kernel
theorem dX11_value_88 : decode cX11_value 88 = .ok (.iconst 1, 1) := by decide +kernel
theorem dX11_value_89 : decode cX11_value 89 = .ok (.ireturn, 1) := by decide +kernel
theorem hd_X11_makes : yX11_makes.cls ≠ "java/lang/invoke/MethodHandle" ∧ yX11_makes.cls ≠ "java/lang/invoke/VarHandle" ∧ (parseMethodDescriptor yX11_makes.desc).map (fun d => d.parameters.length) = some 1 := ⟨by decide +kernel, by decide +kernel, by decide +kernel⟩
theorem hd_X11_puts : yX11_puts.cls ≠ "java/lang/invoke/MethodHandle" ∧ yX11_puts.cls ≠ "java/lang/invoke/VarHandle" ∧ (parseMethodDescriptor yX11_puts.desc).map (fun d => d.parameters.length) = some 2 := ⟨by decide +kernel, by decide +kernel, by decide +kernel⟩
theorem hd_X11_wordHere : yX11_wordHere.cls ≠ "java/lang/invoke/MethodHandle" ∧ yX11_wordHere.cls ≠ "java/lang/invoke/VarHandle" ∧ (parseMethodDescriptor yX11_wordHere.desc).map (fun d => d.parameters.length) = some 0 := ⟨by decide +kernel, by decide +kernel, by decide +kernel⟩
theorem KPf.i {f : Nat → Nat → Bool} {g : Nat → Bool} {z u : TS} (h : KPf f g z u) {j k : Nat} {v : Int32} (ci : Nat) (hj : ro j = ci) (hf : f ci k = true) (e : tI z j k = v) : tI u j k = v := by
  rw [h.1 j k (by rw [hj]; exact hf)]; exact e
theorem LTx.kp {f : Nat → Nat → Bool} {g : Nat → Bool} {z u : TS} (h : LTx z) (k : KPf f g z u) (h8 : tI u 386 8 = tI z 386 8) (h1 : f 11 1 = true) (hg : g 45 = true) : LTx u := by
  unfold LTx CHx at *
  rw [h8, k.1 386 1 h1, (k.2.1 387 hg).1]
  exact h
theorem scx_p {f : Nat → Nat → Bool} {g : Nat → Bool} {z u : TS} (h : NXx z) (k : KPf f g z u) (h8 : f 11 8 = true) (h1 : f 11 1 = true) : Scx z u := by
  have e8 := k.1 386 8 h8
  have e1 := k.1 386 1 h1
  unfold Scx NXx at *
  rw [e8, e1]
  exact ⟨h, Int.le_refl _⟩
theorem LSx.kp {f : Nat → Nat → Bool} {g : Nat → Bool} {z u : TS} (h : LSx z) (k : KPf f g z u) (h8 : tI u 386 8 = tI z 386 8) (h1 : f 11 1 = true) : LSx u := by
  unfold LSx at *; rw [h8, k.1 386 1 h1]; exact h
set_option maxHeartbeats 4000000 in
set_option maxRecDepth 100000 in
theorem v_value (l : Launch) (D : va_G) (K : Nat → ClassId) (ad : Nat → Nat) (z : TS) (o : Ok z) (hp : PIx z) (hs : 0 ≤ SLk z) : cI l yX11_value cX11_value 3 .boolean ({ frames := 3, cells := 0, slots := 0, locals := 66 }) D K ad z [.ref (ad 386)] (fun r u => Ok u ∧ KP1 z u ∧ iv 0 1 r ∧ (Scx z u) ∧ (PIx u) ∧ (SLk z ≤ SLk u) ∧ (¬ r = 0 → Gd 1 0 z u)) := by
  have sc0 : Scx z z := Scx.rf hp.2.1
  have sl_0 : SLk z + 0 ≤ SLk z := sl_0
  have gd_0 : Gd 0 0 z z := Gd.rf
  refine t_enterI (by decide) (Nat.le_of_ble_eq_true rfl) rfl rfl ?_
  intro p e s m args below meth c A R Q H locs ls E hfr hlo RET G hl
  have E : mE p s m meth c cX11_value args 3 RX11 D K A := E
  have hl : lv_has ls 3 [(0, .ref (ad 386))] := hl
  refine lv_aload_n E.1 E.2.1 dX11_value_0 rfl (lv_at hl 0 rfl) ?_
  refine t_vi E G hl (v_see l D K ad z o sc0.1) 11 (rfl : ro 386 = 11) (by decide) rfl rfl 0 rfl mw_code_X11_see mw_ini_11 mw_ml_11_96 mw_inst_X11_see mw_sel_X11_see hd_X11_see ⟨Nat.le_trans (by decide) hfr, Nat.le_trans (by decide) hlo⟩ rfl rfl rfl (Nat.le_of_ble_eq_true rfl) dX11_value_1 (fun r2 zz1 H locs hp3 G => ?_)
  obtain ⟨oo4, kk5, b6, h7, h8, h9, h10⟩ := hp3
  have kk11 : KP1 z zz1 := KPf.tr KPf.rf (KN8.p1 kk5)
  have h12 := Scx.tr sc0 h7
  have sm13 := Same.of kk5 rfl rfl rfl
  have h14 : PIx zz1 := pi_q hp sm13 h12.1 (kk5.1 386 12 rfl) (kk5.1 386 11 rfl)
  have h15 : SLk z + 0 ≤ SLk zz1 := sl_q 0 sl_0 sm13 (by have h := h7.2; omega) (by decide)
  have h16 := Gd.sm gd_0 sm13
  refine lv_pop E.1 E.2.1 dX11_value_4 rfl ?_
  refine lv_aload_n E.1 E.2.1 dX11_value_5 rfl (lv_at hl 0 rfl) ?_
  refine t_get E G 11 8 (rfl : ro 386 = 11) (C := RX11) (T := TX11) (N := 37) rfl (by decide) (by decide) (by decide) mw_fl_11_93 (fvl_i rfl) dX11_value_6 ?_
  refine lv_topi (fun v17 e18 => ?_)
  have b19 : iv 0 400 v17 := by rw [e18]; exact oo4.i 11 8 (rfl : ro 386 = 11)
  refine lv_istore_n (lv' := [(1, .int v17), (0, .ref (ad 386))]) E.1 E.2.1 dX11_value_9 rfl hl (by decide) rfl (fun ls hl => ?_)
  refine lv_aload_n E.1 E.2.1 dX11_value_10 rfl (lv_at hl 1 rfl) ?_
  refine lv_aload_n E.1 E.2.1 dX11_value_11 rfl (lv_at hl 1 rfl) ?_
  refine t_get E G 11 8 (rfl : ro 386 = 11) (C := RX11) (T := TX11) (N := 37) rfl (by decide) (by decide) (by decide) mw_fl_11_93 (fvl_i rfl) dX11_value_12 ?_
  refine m_ci v17 e18.symm ?_
  refine t_vi E G hl (v_isDigit l D K ad zz1 oo4 v17 (iv_mono b19 (by decide) (by decide))) 11 (rfl : ro 386 = 11) (by decide) rfl rfl 1 rfl mw_code_X11_isDigit mw_ini_11 mw_ml_11_111 mw_inst_X11_isDigit mw_sel_X11_isDigit hd_X11_isDigit ⟨Nat.le_trans (by decide) hfr, Nat.le_trans (by decide) hlo⟩ rfl rfl rfl (Nat.le_of_ble_eq_true rfl) dX11_value_15 (fun r21 zz20 H locs hp22 G => ?_)
  obtain ⟨hz26, b23, h24, h25⟩ := hp22
  rw [hz26] at G
  refine lv_if_eq (tgt := 52) E.1 E.2.1 dX11_value_18 (by decide) (fun c27 => ?_) (fun c27 => ?_)
  · skip
    have b28 : iv 0 0 r21 := iv_eq c27 (iv_lit (lo := 0) (hi := 0) 0 (by decide) (by decide))
    refine lv_aload_n E.1 E.2.1 dX11_value_52 rfl (lv_at hl 1 rfl) ?_
    refine t_vi E G hl (v_wordHere l D K ad zz1 oo4 h12.1) 11 (rfl : ro 386 = 11) (by decide) rfl rfl 0 rfl mw_code_X11_wordHere mw_ini_11 mw_ml_11_174 mw_inst_X11_wordHere mw_sel_X11_wordHere hd_X11_wordHere ⟨Nat.le_trans (by decide) hfr, Nat.le_trans (by decide) hlo⟩ rfl rfl rfl (Nat.le_of_ble_eq_true rfl) dX11_value_53 (fun r30 zz29 H locs hp31 G => ?_)
    obtain ⟨oo32, kk33, b34, h35, h36⟩ := hp31
    have kk37 : KP1 z zz29 := KPf.tr kk11 (KN8.p1 kk33)
    have h38 := Scx.tr h12 h35
    have sm39 := Same.of kk33 rfl rfl rfl
    have h40 : PIx zz29 := pi_q h14 sm39 h38.1 (kk33.1 386 12 rfl) (kk33.1 386 11 rfl)
    have h41 : SLk z + 0 ≤ SLk zz29 := sl_q 0 h15 sm39 (by have h := h35.2; omega) (by decide)
    have h42 := Gd.sm h16 sm39
    refine lv_istore_n (lv' := [(2, .int r30), (1, .int v17), (0, .ref (ad 386))]) E.1 E.2.1 dX11_value_56 rfl hl (by decide) rfl (fun ls hl => ?_)
    refine lv_iload_n E.1 E.2.1 dX11_value_57 rfl (lv_at hl 0 rfl) ?_
    refine lv_if_ge (tgt := 68) E.1 E.2.1 dX11_value_58 (by decide) (fun c43 => ?_) (fun c43 => ?_)
    · skip
      have b44 : iv 0 10 r30 := le_r c43 (iv_lit (lo := 0) (hi := 0) 0 (by decide) (by decide)) b34 (by decide)
      have h45 : LTx zz29 := h36 (Int.le_trans (by decide) b44.1)
      refine lv_aload_n E.1 E.2.1 dX11_value_68 rfl (lv_at hl 2 rfl) ?_
      refine lv_iload_n E.1 E.2.1 dX11_value_69 rfl (lv_at hl 1 rfl) ?_
      refine t_vi E G hl (v_makes l D K ad zz29 oo32 v17 h40) 11 (rfl : ro 386 = 11) (by decide) rfl rfl 1 rfl mw_code_X11_makes mw_ini_11 mw_ml_11_171 mw_inst_X11_makes mw_sel_X11_makes hd_X11_makes ⟨Nat.le_trans (by decide) hfr, Nat.le_trans (by decide) hlo⟩ rfl rfl rfl (Nat.le_of_ble_eq_true rfl) dX11_value_70 (fun r47 zz46 H locs hp48 G => ?_)
      obtain ⟨oo49, kk50, b51, h52, h53⟩ := hp48
      have kk54 : KP1 z zz46 := KPf.tr kk37 (KMk.p1 kk50)
      have h55 := Scx.tr h38 (Scx.k h38.1 kk50 rfl rfl)
      have h56 : LTx zz46 := LTx.k h45 kk50 (kk50.1 386 8 rfl) rfl rfl
      have sm57 := Same.of kk50 rfl rfl rfl
      have h58 : SLk z + 0 ≤ SLk zz46 := sl_q 0 h41 sm57 (by rw [kk50.1 386 8 rfl]; omega) (by decide)
      have h59 := Gd.sm h42 sm57
      refine lv_if_ne (tgt := 78) E.1 E.2.1 dX11_value_73 (by decide) (fun c60 => ?_) (fun c60 => ?_)
      · skip
        have b61 : iv 1 1 r47 := ne_lo c60 b51 (by decide) (by decide)
        refine lv_aload_n E.1 E.2.1 dX11_value_78 rfl (lv_at hl 2 rfl) ?_
        refine t_vv E G hl (v_passWord l D K ad zz46 oo49 h55.1) 11 (rfl : ro 386 = 11) (by decide) rfl rfl 0 rfl mw_code_X11_passWord mw_ini_11 mw_ml_11_108 mw_inst_X11_passWord mw_sel_X11_passWord hd_X11_passWord ⟨Nat.le_trans (by decide) hfr, Nat.le_trans (by decide) hlo⟩ rfl rfl rfl (Nat.le_of_ble_eq_true rfl) dX11_value_79 (fun zz62 H locs hp64 G => ?_)
        obtain ⟨oo65, kk66, h67, h68⟩ := hp64
        have kk69 : KP1 z zz62 := KPf.tr kk54 (KN8.p1 kk66)
        have h70 := Scx.tr h55 h67
        have sm71 := Same.of kk66 rfl rfl rfl
        have h72 : PIx zz62 := pi_q h52 sm71 h70.1 (kk66.1 386 12 rfl) (kk66.1 386 11 rfl)
        have h73 : SLk z + 1 ≤ SLk zz62 := sl_q 1 h58 sm71 (h68 h56) (by decide)
        have h74 := Gd.sm h59 sm71
        have h75 := hm_q (h53 c60) sm71 (kk66.1 386 12 rfl)
        refine lv_aload_n E.1 E.2.1 dX11_value_82 rfl (lv_at hl 2 rfl) ?_
        refine lv_iconst (v := 1) E.1 E.2.1 dX11_value_83 (by decide) ?_
        refine lv_iload_n E.1 E.2.1 dX11_value_84 rfl (lv_at hl 0 rfl) ?_
        refine t_vv E G hl (v_puts_word l D K ad zz62 oo65 r30 (iv_mono b44 (by decide) (by decide)) h72 (le399 oo65 (by have h1 := hs; have h2 := h73; omega)) h75) 11 (rfl : ro 386 = 11) (by decide) rfl rfl 2 rfl mw_code_X11_puts mw_ini_11 mw_ml_11_163 mw_inst_X11_puts mw_sel_X11_puts hd_X11_puts ⟨Nat.le_trans (by decide) hfr, Nat.le_trans (by decide) hlo⟩ rfl rfl rfl (Nat.le_of_ble_eq_true rfl) dX11_value_85 (fun zz76 H locs hp78 G => ?_)
        obtain ⟨oo79, kk80, h81, h82, h83⟩ := hp78
        have kk84 : KP1 z zz76 := KPf.tr kk69 (KPU.p1 kk80)
        have h85 := Scx.tr h70 (scx_p h70.1 kk80 rfl rfl)
        have h86 : SLk z + 0 ≤ SLk zz76 := by have h1 := h73; have h2 := h82; omega
        have h87 : Gd 1 0 z zz76 := Gd.tr h74 kk69 h83 (by decide) (by decide)
        refine lv_iconst (v := 1) E.1 E.2.1 dX11_value_88 (by decide) ?_
        exact RET G ⟨oo79, kk84, (iv_mono (iv_lit (lo := 1) (hi := 1) 1 (by decide) (by decide)) (by decide) (by decide)), h85, h81, (by have h := h86; omega), (fun _ => Gd.wk h87 (by decide) (by decide))⟩ (by decide) dX11_value_89
      · skip
        have b88 : iv 0 0 r47 := iv_eq c60 (iv_lit (lo := 0) (hi := 0) 0 (by decide) (by decide))
        refine lv_iconst (v := 0) E.1 E.2.1 dX11_value_76 (by decide) ?_
        exact RET G ⟨oo49, kk54, (iv_mono (iv_lit (lo := 0) (hi := 0) 0 (by decide) (by decide)) (by decide) (by decide)), h55, h52, (by have h := h58; omega), (fun h => absurd rfl h)⟩ (by decide) dX11_value_77
    · skip
      have b89 : iv (-1) (-1) r30 := lt_l (Int32.not_le.mp c43) b34 (iv_lit (lo := 0) (hi := 0) 0 (by decide) (by decide)) (by decide)
      refine lv_aload_n E.1 E.2.1 dX11_value_61 rfl (lv_at hl 2 rfl) ?_
      refine lv_iconst (v := 0) E.1 E.2.1 dX11_value_62 (by decide) ?_
      refine lv_iload_n E.1 E.2.1 dX11_value_63 rfl (lv_at hl 1 rfl) ?_
      refine t_vi E G hl (v_fails l D K ad zz29 oo32 (0 : Int32) v17) 11 (rfl : ro 386 = 11) (by decide) rfl rfl 2 rfl mw_code_X11_fails mw_ini_11 mw_ml_11_114 mw_inst_X11_fails mw_sel_X11_fails hd_X11_fails ⟨Nat.le_trans (by decide) hfr, Nat.le_trans (by decide) hlo⟩ rfl rfl rfl (Nat.le_of_ble_eq_true rfl) dX11_value_64 (fun r91 zz90 H locs hp92 G => ?_)
      obtain ⟨oo93, kk94, b95⟩ := hp92
      have kk96 : KP1 z zz90 := KPf.tr kk37 (KA9.p1 kk94)
      have h97 := Scx.tr h38 (Scx.k h38.1 kk94 rfl rfl)
      have sm98 := Same.of kk94 rfl rfl rfl
      have h99 : PIx zz90 := pi_q h40 sm98 h97.1 (kk94.1 386 12 rfl) (kk94.1 386 11 rfl)
      have h100 : SLk z + 0 ≤ SLk zz90 := sl_q 0 h41 sm98 (by rw [kk94.1 386 8 rfl]; omega) (by decide)
      have h101 := Gd.sm h42 sm98
      exact RET G ⟨oo93, kk96, (iv_mono b95 (by decide) (by decide)), h97, h99, (by have h := h100; omega), (fun h => absurd (zero_of b95) h)⟩ (nar_b b95) dX11_value_67
  · skip
    have b102 : iv 1 1 r21 := ne_lo c27 b23 (by decide) (by decide)
    refine lv_aload_n E.1 E.2.1 dX11_value_21 rfl (lv_at hl 1 rfl) ?_
    refine lv_iconst (v := 0) E.1 E.2.1 dX11_value_22 (by decide) ?_
    refine lv_ldc (v := 99999) E.1 E.2.1 E.2.2.2.1 (E.2.2.2.2.1 _ mw_cI_11_167) dX11_value_23 ?_
    refine t_vi E G hl (v_numberHere l D K ad zz1 oo4 (0 : Int32) (99999 : Int32) h12.1) 11 (rfl : ro 386 = 11) (by decide) rfl rfl 2 rfl mw_code_X11_numberHere mw_ini_11 mw_ml_11_168 mw_inst_X11_numberHere mw_sel_X11_numberHere hd_X11_numberHere ⟨Nat.le_trans (by decide) hfr, Nat.le_trans (by decide) hlo⟩ rfl rfl rfl (Nat.le_of_ble_eq_true rfl) dX11_value_25 (fun r104 zz103 H locs hp105 G => ?_)
    obtain ⟨oo106, kk107, b108, h109, h110⟩ := hp105
    have kk111 : KP1 z zz103 := KPf.tr kk11 (KZ.p1 kk107)
    have h112 := Scx.tr h12 h109
    have sm113 := Same.of kk107 rfl rfl rfl
    have h114 : PIx zz103 := pi_q h14 sm113 h112.1 (kk107.1 386 12 rfl) (kk107.1 386 11 rfl)
    have h115 : SLk z + 0 ≤ SLk zz103 := sl_q 0 h15 sm113 (by have h := h109.2; omega) (by decide)
    have h116 := Gd.sm h16 sm113
    refine lv_if_eq (tgt := 39) E.1 E.2.1 dX11_value_28 (by decide) (fun c117 => ?_) (fun c117 => ?_)
    · skip
      have b118 : iv 0 0 r104 := iv_eq c117 (iv_lit (lo := 0) (hi := 0) 0 (by decide) (by decide))
      refine lv_iconst (v := 0) E.1 E.2.1 dX11_value_39 (by decide) ?_
      exact RET G ⟨oo106, kk111, (iv_mono (iv_lit (lo := 0) (hi := 0) 0 (by decide) (by decide)) (by decide) (by decide)), h112, h114, (by have h := h115; omega), (fun h => absurd rfl h)⟩ (by decide) dX11_value_40
    · skip
      have b119 : iv 1 1 r104 := ne_lo c117 b108 (by decide) (by decide)
      have h120 := h110 c117
      have h121 : SLk z + 1 ≤ SLk zz103 := sl_q 1 h15 sm113 h120.1 (by decide)
      refine lv_aload_n E.1 E.2.1 dX11_value_31 rfl (lv_at hl 1 rfl) ?_
      refine lv_iload_n E.1 E.2.1 dX11_value_32 rfl (lv_at hl 0 rfl) ?_
      refine t_vi E G hl (v_makes l D K ad zz103 oo106 v17 h114) 11 (rfl : ro 386 = 11) (by decide) rfl rfl 1 rfl mw_code_X11_makes mw_ini_11 mw_ml_11_171 mw_inst_X11_makes mw_sel_X11_makes hd_X11_makes ⟨Nat.le_trans (by decide) hfr, Nat.le_trans (by decide) hlo⟩ rfl rfl rfl (Nat.le_of_ble_eq_true rfl) dX11_value_33 (fun r123 zz122 H locs hp124 G => ?_)
      obtain ⟨oo125, kk126, b127, h128, h129⟩ := hp124
      have kk130 : KP1 z zz122 := KPf.tr kk111 (KMk.p1 kk126)
      have h131 := Scx.tr h112 (Scx.k h112.1 kk126 rfl rfl)
      have sm132 := Same.of kk126 rfl rfl rfl
      have h133 : SLk z + 1 ≤ SLk zz122 := sl_q 0 h121 sm132 (by rw [kk126.1 386 8 rfl]; omega) (by decide)
      have h134 := Gd.sm h116 sm132
      refine lv_if_ne (tgt := 41) E.1 E.2.1 dX11_value_36 (by decide) (fun c135 => ?_) (fun c135 => ?_)
      · skip
        have b136 : iv 1 1 r123 := ne_lo c135 b127 (by decide) (by decide)
        refine lv_aload_n E.1 E.2.1 dX11_value_41 rfl (lv_at hl 1 rfl) ?_
        refine lv_iconst (v := 0) E.1 E.2.1 dX11_value_42 (by decide) ?_
        refine lv_aload_n E.1 E.2.1 dX11_value_43 rfl (lv_at hl 1 rfl) ?_
        refine t_get E G 11 10 (rfl : ro 386 = 11) (C := RX11) (T := TX11) (N := 37) rfl (by decide) (by decide) (by decide) mw_fl_11_118 (fvl_i rfl) dX11_value_44 ?_
        refine lv_topi (fun v137 e138 => ?_)
        have b139 : iv 0 99999 v137 := by rw [e138]; exact oo125.i 11 10 (rfl : ro 386 = 11)
        refine t_vv E G hl (v_puts_num l D K ad zz122 oo125 v137 (iv_mono b139 (by decide) (by decide)) h128 (le399 oo125 (by have h1 := hs; have h2 := h133; omega)) (h129 c135)) 11 (rfl : ro 386 = 11) (by decide) rfl rfl 2 rfl mw_code_X11_puts mw_ini_11 mw_ml_11_163 mw_inst_X11_puts mw_sel_X11_puts hd_X11_puts ⟨Nat.le_trans (by decide) hfr, Nat.le_trans (by decide) hlo⟩ rfl rfl rfl (Nat.le_of_ble_eq_true rfl) dX11_value_47 (fun zz140 H locs hp142 G => ?_)
        obtain ⟨oo143, kk144, h145, h146, h147⟩ := hp142
        have kk148 : KP1 z zz140 := KPf.tr kk130 (KPU.p1 kk144)
        have h149 : tI zz140 386 10 = v137 := KPf.i kk144 11 (rfl : ro 386 = 11) (by decide) e138.symm
        have h150 := Scx.tr h131 (scx_p h131.1 kk144 rfl rfl)
        have h151 : SLk z + 0 ≤ SLk zz140 := by have h1 := h133; have h2 := h146; omega
        have h152 : Gd 1 0 z zz140 := Gd.tr h134 kk130 h147 (by decide) (by decide)
        refine lv_iconst (v := 1) E.1 E.2.1 dX11_value_50 (by decide) ?_
        exact RET G ⟨oo143, kk148, (iv_mono (iv_lit (lo := 1) (hi := 1) 1 (by decide) (by decide)) (by decide) (by decide)), h150, h145, (by have h := h151; omega), (fun _ => Gd.wk h152 (by decide) (by decide))⟩ (by decide) dX11_value_51
      · skip
        have b153 : iv 0 0 r123 := iv_eq c135 (iv_lit (lo := 0) (hi := 0) 0 (by decide) (by decide))
        refine lv_iconst (v := 0) E.1 E.2.1 dX11_value_39 (by decide) ?_
        exact RET G ⟨oo125, kk130, (iv_mono (iv_lit (lo := 0) (hi := 0) 0 (by decide) (by decide)) (by decide) (by decide)), h131, h128, (by have h := h133; omega), (fun h => absurd rfl h)⟩ (by decide) dX11_value_40
