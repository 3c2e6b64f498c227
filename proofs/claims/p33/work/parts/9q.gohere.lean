theorem mw_cL_11_211 : (Cond.constantLong RX11 211 (26982) : Cond) ∈ cw := cw_of (List.mem_append_right _ (List.mem_append_right _ (List.mem_append_right _ (List.mem_append_right _ (List.mem_append_right _ (List.mem_append_right _ (List.mem_append_left _ (List.mem_of_getElem? (i := 107) (by decide +kernel))))))))) (by decide +kernel)
theorem mw_code_X11_takesWord : (Cond.code yX11_takesWord cX11_takesWord 3 (some .boolean) : Cond) ∈ cw := cw_of (List.mem_append_right _ (List.mem_append_right _ (List.mem_append_right _ (List.mem_append_right _ (List.mem_append_right _ (List.mem_append_right _ (List.mem_append_left _ (List.mem_of_getElem? (i := 111) rfl)))))))) (by decide +kernel)
theorem mw_code_X11_tested : (Cond.code yX11_tested cX11_tested 3 (some .boolean) : Cond) ∈ cw := cw_of (List.mem_append_right _ (List.mem_append_right _ (List.mem_append_right _ (List.mem_append_right _ (List.mem_append_right _ (List.mem_append_right _ (List.mem_append_left _ (List.mem_of_getElem? (i := 115) rfl)))))))) (by decide +kernel)
theorem mw_inst_X11_takesWord : (Cond.instanceMethod yX11_takesWord : Cond) ∈ cw := cw_of (List.mem_append_right _ (List.mem_append_right _ (List.mem_append_right _ (List.mem_append_right _ (List.mem_append_right _ (List.mem_append_right _ (List.mem_append_left _ (List.mem_of_getElem? (i := 110) (by decide +kernel))))))))) (by decide +kernel)
theorem mw_inst_X11_tested : (Cond.instanceMethod yX11_tested : Cond) ∈ cw := cw_of (List.mem_append_right _ (List.mem_append_right _ (List.mem_append_right _ (List.mem_append_right _ (List.mem_append_right _ (List.mem_append_right _ (List.mem_append_left _ (List.mem_of_getElem? (i := 114) (by decide +kernel))))))))) (by decide +kernel)
theorem mw_ml_11_213 : (Cond.methodLink RX11 213 yX11_takesWord : Cond) ∈ cw := cw_of (List.mem_append_right _ (List.mem_append_right _ (List.mem_append_right _ (List.mem_append_right _ (List.mem_append_right _ (List.mem_append_right _ (List.mem_append_left _ (List.mem_of_getElem? (i := 108) (by decide +kernel))))))))) (by decide +kernel)
theorem mw_ml_11_216 : (Cond.methodLink RX11 216 yX11_tested : Cond) ∈ cw := cw_of (List.mem_append_right _ (List.mem_append_right _ (List.mem_append_right _ (List.mem_append_right _ (List.mem_append_right _ (List.mem_append_right _ (List.mem_append_left _ (List.mem_of_getElem? (i := 112) (by decide +kernel))))))))) (by decide +kernel)
theorem mw_sel_X11_takesWord : (Cond.selects RX11 yX11_takesWord yX11_takesWord : Cond) ∈ cw := cw_of (List.mem_append_left _ (List.mem_of_getElem? (i := 71) (by decide +kernel))) (by decide +kernel)
theorem mw_sel_X11_tested : (Cond.selects RX11 yX11_tested yX11_tested : Cond) ∈ cw := cw_of (List.mem_append_left _ (List.mem_of_getElem? (i := 72) (by decide +kernel))) (by decide +kernel)
theorem dX11_isGoHere_0 : decode cX11_isGoHere 0 = .ok (.aload_n 0, 1) := by decide +kernel
theorem dX11_isGoHere_1 : decode cX11_isGoHere 1 = .ok (.invokevirtual 108, 3) := by decide +kernel
theorem dX11_isGoHere_4 : decode cX11_isGoHere 4 = .ok (.bipush 48, 2) := by decide +kernel
theorem dX11_isGoHere_6 : decode cX11_isGoHere 6 = .ok (.aload_n 0, 1) := by decide +kernel
theorem dX11_isGoHere_7 : decode cX11_isGoHere 7 = .ok (.getfield 147, 3) := by decide +kernel
theorem dX11_isGoHere_10 : decode cX11_isGoHere 10 = .ok (.imul, 1) := by decide +kernel
theorem dX11_isGoHere_11 : decode cX11_isGoHere 11 = .ok (.iconst 4, 1) := by decide +kernel
theorem dX11_isGoHere_12 : decode cX11_isGoHere 12 = .ok (.aload_n 0, 1) := by decide +kernel
theorem dX11_isGoHere_13 : decode cX11_isGoHere 13 = .ok (.getfield 23, 3) := by decide +kernel
theorem dX11_isGoHere_16 : decode cX11_isGoHere 16 = .ok (.aload_n 0, 1) := by decide +kernel
theorem dX11_isGoHere_17 : decode cX11_isGoHere 17 = .ok (.getfield 147, 3) := by decide +kernel
theorem dX11_isGoHere_20 : decode cX11_isGoHere 20 = .ok (.iaload, 1) := by decide +kernel
theorem dX11_isGoHere_21 : decode cX11_isGoHere 21 = .ok (.imul, 1) := by decide +kernel
theorem dX11_isGoHere_22 : decode cX11_isGoHere 22 = .ok (.iadd, 1) := by decide +kernel
theorem dX11_isGoHere_23 : decode cX11_isGoHere 23 = .ok (.istore_n 1, 1) := by decide +kernel
theorem dX11_isGoHere_24 : decode cX11_isGoHere 24 = .ok (.aload_n 0, 1) := by decide +kernel
theorem dX11_isGoHere_25 : decode cX11_isGoHere 25 = .ok (.getfield 20, 3) := by decide +kernel
theorem dX11_isGoHere_28 : decode cX11_isGoHere 28 = .ok (.iload_n 1, 1) := by decide +kernel
theorem dX11_isGoHere_29 : decode cX11_isGoHere 29 = .ok (.aload_n 0, 1) := by decide +kernel
theorem dX11_isGoHere_30 : decode cX11_isGoHere 30 = .ok (.getfield 17, 3) := by decide +kernel
theorem dX11_isGoHere_33 : decode cX11_isGoHere 33 = .ok (.aload_n 0, 1) := by decide +kernel
theorem dX11_isGoHere_34 : decode cX11_isGoHere 34 = .ok (.getfield 147, 3) := by decide +kernel
theorem dX11_isGoHere_37 : decode cX11_isGoHere 37 = .ok (.iaload, 1) := by decide +kernel
theorem dX11_isGoHere_38 : decode cX11_isGoHere 38 = .ok (.iastore, 1) := by decide +kernel
theorem dX11_isGoHere_39 : decode cX11_isGoHere 39 = .ok (.aload_n 0, 1) := by decide +kernel
theorem dX11_isGoHere_40 : decode cX11_isGoHere 40 = .ok (.invokevirtual 184, 3) := by decide +kernel
theorem dX11_isGoHere_43 : decode cX11_isGoHere 43 = .ok (.ifCond .ne 5, 3) := by decide +kernel
theorem dX11_isGoHere_46 : decode cX11_isGoHere 46 = .ok (.iconst 0, 1) := by decide +kernel
theorem dX11_isGoHere_47 : decode cX11_isGoHere 47 = .ok (.ireturn, 1) := by decide +kernel
theorem dX11_isGoHere_48 : decode cX11_isGoHere 48 = .ok (.aload_n 0, 1) := by decide +kernel
theorem dX11_isGoHere_49 : decode cX11_isGoHere 49 = .ok (.getfield 20, 3) := by decide +kernel
theorem dX11_isGoHere_52 : decode cX11_isGoHere 52 = .ok (.iload_n 1, 1) := by decide +kernel
theorem dX11_isGoHere_53 : decode cX11_isGoHere 53 = .ok (.iconst 1, 1) := by decide +kernel
theorem dX11_isGoHere_54 : decode cX11_isGoHere 54 = .ok (.iadd, 1) := by decide +kernel
theorem dX11_isGoHere_55 : decode cX11_isGoHere 55 = .ok (.aload_n 0, 1) := by decide +kernel
theorem dX11_isGoHere_56 : decode cX11_isGoHere 56 = .ok (.getfield 17, 3) := by decide +kernel
theorem dX11_isGoHere_59 : decode cX11_isGoHere 59 = .ok (.aload_n 0, 1) := by decide +kernel
theorem dX11_isGoHere_60 : decode cX11_isGoHere 60 = .ok (.getfield 147, 3) := by decide +kernel
theorem dX11_isGoHere_63 : decode cX11_isGoHere 63 = .ok (.iaload, 1) := by decide +kernel
theorem dX11_isGoHere_64 : decode cX11_isGoHere 64 = .ok (.iastore, 1) := by decide +kernel
theorem dX11_isGoHere_65 : decode cX11_isGoHere 65 = .ok (.aload_n 0, 1) := by decide +kernel
theorem dX11_isGoHere_66 : decode cX11_isGoHere 66 = .ok (.getfield 20, 3) := by decide +kernel
theorem dX11_isGoHere_69 : decode cX11_isGoHere 69 = .ok (.iload_n 1, 1) := by decide +kernel
theorem dX11_isGoHere_70 : decode cX11_isGoHere 70 = .ok (.iconst 2, 1) := by decide +kernel
theorem dX11_isGoHere_71 : decode cX11_isGoHere 71 = .ok (.iadd, 1) := by decide +kernel
theorem dX11_isGoHere_72 : decode cX11_isGoHere 72 = .ok (.iconst (-1), 1) := by decide +kernel
theorem dX11_isGoHere_73 : decode cX11_isGoHere 73 = .ok (.iastore, 1) := by decide +kernel
theorem dX11_isGoHere_74 : decode cX11_isGoHere 74 = .ok (.aload_n 0, 1) := by decide +kernel
theorem dX11_isGoHere_75 : decode cX11_isGoHere 75 = .ok (.ldc2_w 211, 3) := by decide +kernel
theorem dX11_isGoHere_78 : decode cX11_isGoHere 78 = .ok (.invokevirtual 213, 3) := by decide +kernel
theorem dX11_isGoHere_81 : decode cX11_isGoHere 81 = .ok (.ifCond .eq 29, 3) := by decide +kernel
theorem dX11_isGoHere_84 : decode cX11_isGoHere 84 = .ok (.aload_n 0, 1) := by decide +kernel
theorem dX11_isGoHere_85 : decode cX11_isGoHere 85 = .ok (.getfield 20, 3) := by decide +kernel
theorem dX11_isGoHere_88 : decode cX11_isGoHere 88 = .ok (.iload_n 1, 1) := by decide +kernel
theorem dX11_isGoHere_89 : decode cX11_isGoHere 89 = .ok (.iconst 2, 1) := by decide +kernel
theorem dX11_isGoHere_90 : decode cX11_isGoHere 90 = .ok (.iadd, 1) := by decide +kernel
theorem dX11_isGoHere_91 : decode cX11_isGoHere 91 = .ok (.aload_n 0, 1) := by decide +kernel
theorem dX11_isGoHere_92 : decode cX11_isGoHere 92 = .ok (.getfield 17, 3) := by decide +kernel
theorem dX11_isGoHere_95 : decode cX11_isGoHere 95 = .ok (.aload_n 0, 1) := by decide +kernel
theorem dX11_isGoHere_96 : decode cX11_isGoHere 96 = .ok (.getfield 147, 3) := by decide +kernel
theorem dX11_isGoHere_99 : decode cX11_isGoHere 99 = .ok (.iaload, 1) := by decide +kernel
theorem dX11_isGoHere_100 : decode cX11_isGoHere 100 = .ok (.iastore, 1) := by decide +kernel
theorem dX11_isGoHere_101 : decode cX11_isGoHere 101 = .ok (.aload_n 0, 1) := by decide +kernel
theorem dX11_isGoHere_102 : decode cX11_isGoHere 102 = .ok (.invokevirtual 216, 3) := by decide +kernel
theorem dX11_isGoHere_105 : decode cX11_isGoHere 105 = .ok (.ifCond .ne 5, 3) := by decide +kernel
theorem dX11_isGoHere_108 : decode cX11_isGoHere 108 = .ok (.iconst 0, 1) := by decide +kernel
theorem dX11_isGoHere_109 : decode cX11_isGoHere 109 = .ok (.ireturn, 1) := by decide +kernel
theorem dX11_isGoHere_110 : decode cX11_isGoHere 110 = .ok (.aload_n 0, 1) := by decide +kernel
theorem dX11_isGoHere_111 : decode cX11_isGoHere 111 = .ok (.getfield 20, 3) := by decide +kernel
theorem dX11_isGoHere_114 : decode cX11_isGoHere 114 = .ok (.iload_n 1, 1) := by decide +kernel
theorem dX11_isGoHere_115 : decode cX11_isGoHere 115 = .ok (.iconst 3, 1) := by decide +kernel
theorem dX11_isGoHere_116 : decode cX11_isGoHere 116 = .ok (.iadd, 1) := by decide +kernel
theorem dX11_isGoHere_117 : decode cX11_isGoHere 117 = .ok (.aload_n 0, 1) := by decide +kernel
theorem dX11_isGoHere_118 : decode cX11_isGoHere 118 = .ok (.getfield 17, 3) := by decide +kernel
theorem dX11_isGoHere_121 : decode cX11_isGoHere 121 = .ok (.aload_n 0, 1) := by decide +kernel
theorem dX11_isGoHere_122 : decode cX11_isGoHere 122 = .ok (.getfield 147, 3) := by decide +kernel
theorem dX11_isGoHere_125 : decode cX11_isGoHere 125 = .ok (.iaload, 1) := by decide +kernel
theorem dX11_isGoHere_126 : decode cX11_isGoHere 126 = .ok (.iastore, 1) := by decide +kernel
theorem dX11_isGoHere_127 : decode cX11_isGoHere 127 = .ok (.aload_n 0, 1) := by decide +kernel
theorem dX11_isGoHere_128 : decode cX11_isGoHere 128 = .ok (.getfield 23, 3) := by decide +kernel
theorem dX11_isGoHere_131 : decode cX11_isGoHere 131 = .ok (.aload_n 0, 1) := by decide +kernel
theorem dX11_isGoHere_132 : decode cX11_isGoHere 132 = .ok (.getfield 147, 3) := by decide +kernel
theorem dX11_isGoHere_135 : decode cX11_isGoHere 135 = .ok (.dup2, 1) := by decide +kernel
theorem dX11_isGoHere_136 : decode cX11_isGoHere 136 = .ok (.iaload, 1) := by decide +kernel
theorem dX11_isGoHere_137 : decode cX11_isGoHere 137 = .ok (.iconst 1, 1) := by decide +kernel
theorem dX11_isGoHere_138 : decode cX11_isGoHere 138 = .ok (.iadd, 1) := by decide +kernel
theorem dX11_isGoHere_139 : decode cX11_isGoHere 139 = .ok (.iastore, 1) := by decide +kernel
theorem dX11_isGoHere_140 : decode cX11_isGoHere 140 = .ok (.iconst 1, 1) := by decide +kernel
theorem dX11_isGoHere_141 : decode cX11_isGoHere 141 = .ok (.ireturn, 1) := by decide +kernel
theorem hd_X11_takesWord : yX11_takesWord.cls ≠ "java/lang/invoke/MethodHandle" ∧ yX11_takesWord.cls ≠ "java/lang/invoke/VarHandle" ∧ (parseMethodDescriptor yX11_takesWord.desc).map (fun d => d.parameters.length) = some 1 := ⟨by decide +kernel, by decide +kernel, by decide +kernel⟩
theorem hd_X11_tested : yX11_tested.cls ≠ "java/lang/invoke/MethodHandle" ∧ yX11_tested.cls ≠ "java/lang/invoke/VarHandle" ∧ (parseMethodDescriptor yX11_tested.desc).map (fun d => d.parameters.length) = some 0 := ⟨by decide +kernel, by decide +kernel, by decide +kernel⟩
set_option maxHeartbeats 4000000 in
set_option maxRecDepth 100000 in
theorem v_isGoHere (l : Launch) (D : va_G) (K : Nat → ClassId) (ad : Nat → Nat) (z : TS) (o : Ok z) (hp : PIx z) (hs : 0 ≤ SLk z) (hh : 0 ≤ Hh z) (wf : WFc z) (hcl : (tA z 391 (tx z)).toInt ≤ 11) : cI l yX11_isGoHere cX11_isGoHere 2 .boolean ({ frames := 9, cells := 0, slots := 0, locals := 198 }) D K ad z [.ref (ad 386)] (fun r u => Ok u ∧ KP3 z u ∧ iv 0 1 r ∧ (Scx z u) ∧ (PIx u) ∧ (SLk z ≤ SLk u) ∧ (WFc u) ∧ ((tA u 391 (tx z)).toInt ≤ (tA z 391 (tx z)).toInt + 1) ∧ (¬ r = 0 → 0 ≤ Hh u)) := by
  have sc0 : Scx z z := Scx.rf hp.2.1
  have sl_0 : SLk z + 0 ≤ SLk z := sl_0
  have crow0 : tA z 391 = tA z 391 := rfl
  refine t_enterI (by decide) (Nat.le_of_ble_eq_true rfl) rfl rfl ?_
  intro p e s m args below meth c A R Q H locs ls E hfr hlo RET G hl
  have E : mE p s m meth c cX11_isGoHere args 2 RX11 D K A := E
  have hl : lv_has ls 2 [(0, .ref (ad 386))] := hl
  refine lv_aload_n E.1 E.2.1 dX11_isGoHere_0 rfl (lv_at hl 0 rfl) ?_
  refine t_vv E G hl (v_passWord l D K ad z o sc0.1) 11 (rfl : ro 386 = 11) (by decide) rfl rfl 0 rfl mw_code_X11_passWord mw_ini_11 mw_ml_11_108 mw_inst_X11_passWord mw_sel_X11_passWord hd_X11_passWord ⟨Nat.le_trans (by decide) hfr, Nat.le_trans (by decide) hlo⟩ rfl rfl rfl (Nat.le_of_ble_eq_true rfl) dX11_isGoHere_1 (fun zz1 H locs hp3 G => ?_)
  obtain ⟨oo4, kk5, h6, h7⟩ := hp3
  have kk8 : KP3 z zz1 := KPf.tr KPf.rf (KN8.p3 kk5)
  have h9 : tI zz1 386 11 = (tI z 386 11) := KF.i kk5 11 (rfl : ro 386 = 11) (by decide) rfl
  have h10 := Scx.tr sc0 h6
  have sm11 := Same.of kk5 rfl rfl rfl
  have h12 : PIx zz1 := pi_q hp sm11 h10.1 (kk5.1 386 12 rfl) (kk5.1 386 11 rfl)
  have h13 : SLk z + 0 ≤ SLk zz1 := sl_q 0 sl_0 sm11 (by have h := h6.2; omega) (by decide)
  have h14 : WFc zz1 := wf_ka wf kk5.2.1 rfl rfl rfl rfl
  have h15 := hh_s sm11 hh
  have h16 : tA zz1 391 = tA z 391 := (kk5.2.1 391 rfl).1.trans crow0
  refine lv_bipush (v := 48) E.1 E.2.1 dX11_isGoHere_4 (by decide) ?_
  refine lv_aload_n E.1 E.2.1 dX11_isGoHere_6 rfl (lv_at hl 0 rfl) ?_
  refine t_get E G 11 11 (rfl : ro 386 = 11) (C := RX11) (T := TX11) (N := 37) rfl (by decide) (by decide) (by decide) mw_fl_11_147 (fvl_i rfl) dX11_isGoHere_7 ?_
  refine lv_topi (fun v17 e18 => ?_)
  have b19 : iv 0 6 v17 := by rw [e18]; exact oo4.i 11 11 (rfl : ro 386 = 11)
  have b20 : iv 0 5 v17 := by rw [(e18.trans h9)]; exact hp.1
  refine lv_imul E.1 E.2.1 dX11_isGoHere_10 ?_
  refine lv_topi (fun v21 e22 => ?_)
  have b23 : iv 0 240 v21 := by rw [e22]; exact iv_mulc' b20 48 (by decide) (by decide) (by decide) (by decide) (by decide) (by decide)
  have l24 : v21.toInt = 0 + 48 * v17.toInt := (show v21.toInt = 48 * v17.toInt by rw [e22]; exact ti_cmul 48 (by decide) (by decide) b20 (by decide) (by decide)).trans (by omega)
  refine lv_iconst (v := 4) E.1 E.2.1 dX11_isGoHere_11 (by decide) ?_
  refine lv_aload_n E.1 E.2.1 dX11_isGoHere_12 rfl (lv_at hl 0 rfl) ?_
  refine t_get E G 11 6 (rfl : ro 386 = 11) (C := RX11) (T := TX11) (N := 37) rfl (by decide) (by decide) (by decide) mw_fl_11_23 (v := .ref (ad 391)) (fvl_o (n := 5) rfl) dX11_isGoHere_13 ?_
  refine lv_aload_n E.1 E.2.1 dX11_isGoHere_16 rfl (lv_at hl 0 rfl) ?_
  refine t_get E G 11 11 (rfl : ro 386 = 11) (C := RX11) (T := TX11) (N := 37) rfl (by decide) (by decide) (by decide) mw_fl_11_147 (fvl_i rfl) dX11_isGoHere_17 ?_
  refine m_ci v17 e18.symm ?_
  refine t_iald E G 49 (rfl : ro 391 = 49) (by decide) (by decide) rfl (n := 6) rfl (iv_vp b20 (by decide) (by decide)) dX11_isGoHere_20 ?_
  refine lv_topi (fun v25 e26 => ?_)
  have b27 : iv 0 12 v25 := by rw [e26]; exact iv_mono (rd_u oo4 49 (rfl : ro 391 = 49) (by decide) _) (by decide) (by decide)
  have h28 : v25 = tA z 391 v17.toNatClampNeg := by rw [e26, h16]
  have h29 : v17.toNatClampNeg = tx z := tx_of (e18.trans h9)
  have b30 : iv 0 11 v25 := ⟨b27.1, by rw [h28, h29]; exact hcl⟩
  have h31 : ((v25.toNatClampNeg : Nat) : Int) = (tA z 391 v17.toNatClampNeg).toInt := by rw [← h28]; exact iv_nat b30 (by decide)
  refine lv_imul E.1 E.2.1 dX11_isGoHere_21 ?_
  refine lv_topi (fun v32 e33 => ?_)
  have b34 : iv 0 44 v32 := by rw [e33]; exact iv_mulc' b30 4 (by decide) (by decide) (by decide) (by decide) (by decide) (by decide)
  have l35 : v32.toInt = 0 + 4 * v25.toInt := (show v32.toInt = 4 * v25.toInt by rw [e33]; exact ti_cmul 4 (by decide) (by decide) b30 (by decide) (by decide)).trans (by omega)
  refine lv_iadd E.1 E.2.1 dX11_isGoHere_22 ?_
  refine lv_topi (fun v36 e37 => ?_)
  have b38 : iv 0 284 v36 := by rw [e37]; exact iv_add b23 b34 (by decide) (by decide) (by decide) (by decide)
  have l39 : v36.toInt = 0 + 48 * v17.toInt + 4 * v25.toInt := (show v36.toInt = v21.toInt + v32.toInt by rw [e37]; exact ti_addv b23 b34 (by decide) (by decide)).trans (by omega)
  refine lv_istore_n (lv' := [(1, .int v36), (0, .ref (ad 386))]) E.1 E.2.1 dX11_isGoHere_23 rfl hl (by decide) rfl (fun ls hl => ?_)
  refine lv_aload_n E.1 E.2.1 dX11_isGoHere_24 rfl (lv_at hl 1 rfl) ?_
  refine t_get E G 11 5 (rfl : ro 386 = 11) (C := RX11) (T := TX11) (N := 37) rfl (by decide) (by decide) (by decide) mw_fl_11_20 (v := .ref (ad 390)) (fvl_o (n := 4) rfl) dX11_isGoHere_25 ?_
  refine lv_iload_n E.1 E.2.1 dX11_isGoHere_28 rfl (lv_at hl 0 rfl) ?_
  refine lv_aload_n E.1 E.2.1 dX11_isGoHere_29 rfl (lv_at hl 1 rfl) ?_
  refine t_get E G 11 4 (rfl : ro 386 = 11) (C := RX11) (T := TX11) (N := 37) rfl (by decide) (by decide) (by decide) mw_fl_11_17 (v := .ref (ad 389)) (fvl_o (n := 3) rfl) dX11_isGoHere_30 ?_
  refine lv_aload_n E.1 E.2.1 dX11_isGoHere_33 rfl (lv_at hl 1 rfl) ?_
  refine t_get E G 11 11 (rfl : ro 386 = 11) (C := RX11) (T := TX11) (N := 37) rfl (by decide) (by decide) (by decide) mw_fl_11_147 (fvl_i rfl) dX11_isGoHere_34 ?_
  refine m_ci v17 e18.symm ?_
  refine t_iald E G 47 (rfl : ro 389 = 47) (by decide) (by decide) rfl (n := 7) rfl (iv_vp b20 (by decide) (by decide)) dX11_isGoHere_37 ?_
  refine lv_topi (fun v40 e41 => ?_)
  have b42 : iv 0 400 v40 := by rw [e41]; exact iv_mono (rd_u oo4 47 (rfl : ro 389 = 47) (by decide) _) (by decide) (by decide)
  have h43 : v40.toNatClampNeg = Ln zz1 := ln_of e18.symm e41
  refine t_iast E G 48 (rfl : ro 390 = 48) (by decide) (by decide) rfl (n := 288) rfl (iv_vp b38 (by decide) (by decide)) dX11_isGoHere_38 (fun H locs G => ?_)
  have h44 : v36.toNatClampNeg = (48 * v17.toNatClampNeg + 4 * v25.toNatClampNeg + 0) := by have e : v36.toNatClampNeg = v36.toInt.toNat := rfl; have n1 := iv_nat b20 (by decide); have n2 := iv_nat b30 (by decide); have := l39; omega
  obtain ⟨zz53, G, oo54, kk55, h56, h45, h46, h47, h48, h49, h50, h51, h52⟩ : ∃ u : TS, mG D A s H locs (wd K ad u) ∧ Ok u ∧ KP3 z u ∧ tI u 386 11 = v17 ∧ (PIx u) ∧ (SLk z + 0 ≤ SLk u) ∧ (0 ≤ Hh u) ∧ (WFc u) ∧ (tA u 391 = tA z 391) ∧ (tA u 390 (48 * v17.toNatClampNeg + 4 * v25.toNatClampNeg + 0) = v40) ∧ (Ln zz1 = Ln u) ∧ (Scx z u) := ⟨_, G, ok_u oo4 48 (rfl : ro 390 = 48) (wr48 (iv_mono b42 (by decide) (by decide))) (by decide), KPf.tr kk8 (KPf_r 48 (rfl : ro 390 = 48) (by decide)), e18.symm, (pi_q h12 (Same.r (by decide)) h12.2.1 rfl rfl), (sl_q 0 h13 (Same.r (by decide)) (by show (tI zz1 386 8).toInt + 0 ≤ (tI zz1 386 8).toInt; omega) (by decide)), (hh_s (Same.r (by decide)) h15), (wf_cw h14 oo4 0 (by rw [h16]; exact h31) (by have n2 := iv_nat b30 (by decide); have := b30.2; omega) (by decide) h44), (sR_o h16 (by decide)), (by rw [sR_row, h44]; unfold upd; rw [if_pos rfl]), (Same.e (Same.r (by decide))).1.symm, h10⟩
  refine lv_aload_n E.1 E.2.1 dX11_isGoHere_39 rfl (lv_at hl 1 rfl) ?_
  refine t_vi E G hl (v_sum l D K ad zz53 oo54 h45 (by have h1 := hs; have h2 := h46; omega)) 11 (rfl : ro 386 = 11) (by decide) rfl rfl 0 rfl mw_code_X11_sum mw_ini_11 mw_ml_11_184 mw_inst_X11_sum mw_sel_X11_sum hd_X11_sum ⟨Nat.le_trans (by decide) hfr, Nat.le_trans (by decide) hlo⟩ rfl rfl rfl (Nat.le_of_ble_eq_true rfl) dX11_isGoHere_40 (fun r58 zz57 H locs hp59 G => ?_)
  obtain ⟨oo60, kk61, b62, h63, h64, h65, h66⟩ := hp59
  have kk67 : KP3 z zz57 := KPf.tr kk55 (KP1.p3 kk61)
  have h68 : tI zz57 386 11 = v17 := KPf.i kk61 11 (rfl : ro 386 = 11) (by decide) h56
  have h69 := Scx.tr h52 h63
  have h70 : SLk z + 0 ≤ SLk zz57 := by have h1 := h46; have h2 := h65; omega
  have h71 : WFc zz57 := wf_kp h48 kk61 rfl rfl
  have h72 : tA zz57 391 = tA z 391 := (kk61.2.1 391 rfl).1.trans h49
  have h73 : tA zz57 390 (48 * v17.toNatClampNeg + 4 * v25.toNatClampNeg + 0) = v40 := by rw [(kk61.2.1 390 rfl).1]; exact h50
  refine lv_if_ne (tgt := 48) E.1 E.2.1 dX11_isGoHere_43 (by decide) (fun c74 => ?_) (fun c74 => ?_)
  · skip
    have b75 : iv 1 1 r58 := ne_lo c74 b62 (by decide) (by decide)
    have h76 := clk_sum (h66 c74) kk61 h64 oo60 h47 (by have h1 := hs; have h2 := h70; omega)
    refine lv_aload_n E.1 E.2.1 dX11_isGoHere_48 rfl (lv_at hl 1 rfl) ?_
    refine t_get E G 11 5 (rfl : ro 386 = 11) (C := RX11) (T := TX11) (N := 37) rfl (by decide) (by decide) (by decide) mw_fl_11_20 (v := .ref (ad 390)) (fvl_o (n := 4) rfl) dX11_isGoHere_49 ?_
    refine lv_iload_n E.1 E.2.1 dX11_isGoHere_52 rfl (lv_at hl 0 rfl) ?_
    refine lv_iconst (v := 1) E.1 E.2.1 dX11_isGoHere_53 (by decide) ?_
    refine lv_iadd E.1 E.2.1 dX11_isGoHere_54 ?_
    refine lv_topi (fun v77 e78 => ?_)
    have b79 : iv 1 285 v77 := by rw [e78]; exact iv_add b38 (iv_lit (lo := 1) (hi := 1) 1 (by decide) (by decide)) (by decide) (by decide) (by decide) (by decide)
    have l80 : v77.toInt = 1 + 48 * v17.toInt + 4 * v25.toInt := (show v77.toInt = v36.toInt + 1 by rw [e78]; exact ti_addc 1 (by decide) b38 (by decide) (by decide)).trans (by omega)
    refine lv_aload_n E.1 E.2.1 dX11_isGoHere_55 rfl (lv_at hl 1 rfl) ?_
    refine t_get E G 11 4 (rfl : ro 386 = 11) (C := RX11) (T := TX11) (N := 37) rfl (by decide) (by decide) (by decide) mw_fl_11_17 (v := .ref (ad 389)) (fvl_o (n := 3) rfl) dX11_isGoHere_56 ?_
    refine lv_aload_n E.1 E.2.1 dX11_isGoHere_59 rfl (lv_at hl 1 rfl) ?_
    refine t_get E G 11 11 (rfl : ro 386 = 11) (C := RX11) (T := TX11) (N := 37) rfl (by decide) (by decide) (by decide) mw_fl_11_147 (fvl_i rfl) dX11_isGoHere_60 ?_
    refine m_ci v17 h68 ?_
    refine t_iald E G 47 (rfl : ro 389 = 47) (by decide) (by decide) rfl (n := 7) rfl (iv_vp b20 (by decide) (by decide)) dX11_isGoHere_63 ?_
    refine lv_topi (fun v81 e82 => ?_)
    have b83 : iv 0 400 v81 := by rw [e82]; exact iv_mono (rd_u oo60 47 (rfl : ro 389 = 47) (by decide) _) (by decide) (by decide)
    have h84 : v81.toNatClampNeg = Ln zz57 := ln_of h68 e82
    refine t_iast E G 48 (rfl : ro 390 = 48) (by decide) (by decide) rfl (n := 288) rfl (iv_vp b79 (by decide) (by decide)) dX11_isGoHere_64 (fun H locs G => ?_)
    have h85 : v77.toNatClampNeg = (48 * v17.toNatClampNeg + 4 * v25.toNatClampNeg + 1) := by have e : v77.toNatClampNeg = v77.toInt.toNat := rfl; have n1 := iv_nat b20 (by decide); have n2 := iv_nat b30 (by decide); have := l80; omega
    have h93 : clk (Fz zz57) v40.toNatClampNeg v81.toNatClampNeg ∧ v81.toNatClampNeg ≤ Ln zz57 := by rw [h84, h43, h51]; exact h76.1
    obtain ⟨zz97, G, oo98, kk99, h100, h86, h87, h88, h89, h90, h91, h92, h94, h95, h96⟩ : ∃ u : TS, mG D A s H locs (wd K ad u) ∧ Ok u ∧ KP3 z u ∧ tI u 386 11 = v17 ∧ (PIx u) ∧ (SLk z + 0 ≤ SLk u) ∧ (0 ≤ Hh u) ∧ (WFc u) ∧ (tA u 391 = tA z 391) ∧ (tA u 390 (48 * v17.toNatClampNeg + 4 * v25.toNatClampNeg + 0) = v40) ∧ (tA u 390 (48 * v17.toNatClampNeg + 4 * v25.toNatClampNeg + 1) = v81) ∧ (clk (Fz u) v40.toNatClampNeg v81.toNatClampNeg ∧ v81.toNatClampNeg ≤ Ln u) ∧ (Ln zz57 = Ln u) ∧ (Scx z u) := ⟨_, G, ok_u oo60 48 (rfl : ro 390 = 48) (wr48 (iv_mono b83 (by decide) (by decide))) (by decide), KPf.tr kk67 (KPf_r 48 (rfl : ro 390 = 48) (by decide)), h68, (pi_q h64 (Same.r (by decide)) h64.2.1 rfl rfl), (sl_q 0 h70 (Same.r (by decide)) (by show (tI zz57 386 8).toInt + 0 ≤ (tI zz57 386 8).toInt; omega) (by decide)), (hh_s (Same.r (by decide)) h76.2), (wf_cw h71 oo60 1 (by rw [h72]; exact h31) (by have n2 := iv_nat b30 (by decide); have := b30.2; omega) (by decide) h85), (sR_o h72 (by decide)), (by rw [sR_row]; unfold upd; rw [if_neg (by rw [h85]; omega)]; exact h73), (by rw [sR_row, h85]; unfold upd; rw [if_pos rfl]), (ck_s (Same.r (by decide)) h93), (Same.e (Same.r (by decide))).1.symm, h69⟩
    refine lv_aload_n E.1 E.2.1 dX11_isGoHere_65 rfl (lv_at hl 1 rfl) ?_
    refine t_get E G 11 5 (rfl : ro 386 = 11) (C := RX11) (T := TX11) (N := 37) rfl (by decide) (by decide) (by decide) mw_fl_11_20 (v := .ref (ad 390)) (fvl_o (n := 4) rfl) dX11_isGoHere_66 ?_
    refine lv_iload_n E.1 E.2.1 dX11_isGoHere_69 rfl (lv_at hl 0 rfl) ?_
    refine lv_iconst (v := 2) E.1 E.2.1 dX11_isGoHere_70 (by decide) ?_
    refine lv_iadd E.1 E.2.1 dX11_isGoHere_71 ?_
    refine lv_topi (fun v101 e102 => ?_)
    have b103 : iv 2 286 v101 := by rw [e102]; exact iv_add b38 (iv_lit (lo := 2) (hi := 2) 2 (by decide) (by decide)) (by decide) (by decide) (by decide) (by decide)
    have l104 : v101.toInt = 2 + 48 * v17.toInt + 4 * v25.toInt := (show v101.toInt = v36.toInt + 2 by rw [e102]; exact ti_addc 2 (by decide) b38 (by decide) (by decide)).trans (by omega)
    refine lv_iconst (v := (-1)) E.1 E.2.1 dX11_isGoHere_72 (by decide) ?_
    refine t_iast E G 48 (rfl : ro 390 = 48) (by decide) (by decide) rfl (n := 288) rfl (iv_vp b103 (by decide) (by decide)) dX11_isGoHere_73 (fun H locs G => ?_)
    have h105 : v101.toNatClampNeg = (48 * v17.toNatClampNeg + 4 * v25.toNatClampNeg + 2) := by have e : v101.toNatClampNeg = v101.toInt.toNat := rfl; have n1 := iv_nat b20 (by decide); have n2 := iv_nat b30 (by decide); have := l104; omega
    obtain ⟨zz117, G, oo118, kk119, h120, h106, h107, h108, h109, h110, h111, h112, h113, h114, h115, h116⟩ : ∃ u : TS, mG D A s H locs (wd K ad u) ∧ Ok u ∧ KP3 z u ∧ tI u 386 11 = v17 ∧ (PIx u) ∧ (SLk z + 0 ≤ SLk u) ∧ (0 ≤ Hh u) ∧ (WFc u) ∧ (tA u 391 = tA z 391) ∧ (tA u 390 (48 * v17.toNatClampNeg + 4 * v25.toNatClampNeg + 0) = v40) ∧ (tA u 390 (48 * v17.toNatClampNeg + 4 * v25.toNatClampNeg + 1) = v81) ∧ (tA u 390 (48 * v17.toNatClampNeg + 4 * v25.toNatClampNeg + 2) = (-1)) ∧ (clk (Fz u) v40.toNatClampNeg v81.toNatClampNeg ∧ v81.toNatClampNeg ≤ Ln u) ∧ (Ln zz97 = Ln u) ∧ (Scx z u) := ⟨_, G, ok_u oo98 48 (rfl : ro 390 = 48) (wr48n (iv_mono (iv_lit (lo := (-1)) (hi := (-1)) (-1) (by decide) (by decide)) (by decide) (by decide)) (by rw [h105]; omega)) (by decide), KPf.tr kk99 (KPf_r 48 (rfl : ro 390 = 48) (by decide)), h100, (pi_q h86 (Same.r (by decide)) h86.2.1 rfl rfl), (sl_q 0 h87 (Same.r (by decide)) (by show (tI zz97 386 8).toInt + 0 ≤ (tI zz97 386 8).toInt; omega) (by decide)), (hh_s (Same.r (by decide)) h88), (wf_cw h89 oo98 2 (by rw [h90]; exact h31) (by have n2 := iv_nat b30 (by decide); have := b30.2; omega) (by decide) h105), (sR_o h90 (by decide)), (by rw [sR_row]; unfold upd; rw [if_neg (by rw [h105]; omega)]; exact h91), (by rw [sR_row]; unfold upd; rw [if_neg (by rw [h105]; omega)]; exact h92), (by rw [sR_row, h105]; unfold upd; rw [if_pos rfl]), (ck_s (Same.r (by decide)) h94), (Same.e (Same.r (by decide))).1.symm, h96⟩
    refine lv_aload_n E.1 E.2.1 dX11_isGoHere_74 rfl (lv_at hl 1 rfl) ?_
    refine lv_ldc2 (v := 26982) E.1 E.2.1 E.2.2.2.1 (E.2.2.2.2.1 _ mw_cL_11_211) dX11_isGoHere_75 ?_
    refine t_vi E G hl (v_takesWord l D K ad zz117 oo118 26982 h116.1) 11 (rfl : ro 386 = 11) (by decide) rfl rfl 1 rfl mw_code_X11_takesWord mw_ini_11 mw_ml_11_213 mw_inst_X11_takesWord mw_sel_X11_takesWord hd_X11_takesWord ⟨Nat.le_trans (by decide) hfr, Nat.le_trans (by decide) hlo⟩ rfl rfl rfl (Nat.le_of_ble_eq_true rfl) dX11_isGoHere_78 (fun r122 zz121 H locs hp123 G => ?_)
    obtain ⟨oo124, kk125, b126, h127⟩ := hp123
    have kk128 : KP3 z zz121 := KPf.tr kk119 (KN8.p3 kk125)
    have h129 : tI zz121 386 11 = v17 := KF.i kk125 11 (rfl : ro 386 = 11) (by decide) h120
    have h130 := Scx.tr h116 h127
    have sm131 := Same.of kk125 rfl rfl rfl
    have h132 : PIx zz121 := pi_q h106 sm131 h130.1 (kk125.1 386 12 rfl) (kk125.1 386 11 rfl)
    have h133 : SLk z + 0 ≤ SLk zz121 := sl_q 0 h107 sm131 (by have h := h127.2; omega) (by decide)
    have h134 : WFc zz121 := wf_ka h109 kk125.2.1 rfl rfl rfl rfl
    have h135 := hh_s sm131 h108
    have h136 := ck_s sm131 h114
    have h137 : tA zz121 391 = tA z 391 := (kk125.2.1 391 rfl).1.trans h110
    have h138 : tA zz121 390 (48 * v17.toNatClampNeg + 4 * v25.toNatClampNeg + 0) = v40 := by rw [(kk125.2.1 390 rfl).1]; exact h111
    have h139 : tA zz121 390 (48 * v17.toNatClampNeg + 4 * v25.toNatClampNeg + 1) = v81 := by rw [(kk125.2.1 390 rfl).1]; exact h112
    have h140 : tA zz121 390 (48 * v17.toNatClampNeg + 4 * v25.toNatClampNeg + 2) = (-1) := by rw [(kk125.2.1 390 rfl).1]; exact h113
    refine lv_if_eq (tgt := 110) E.1 E.2.1 dX11_isGoHere_81 (by decide) (fun c141 => ?_) (fun c141 => ?_)
    · skip
      have b142 : iv 0 0 r122 := iv_eq c141 (iv_lit (lo := 0) (hi := 0) 0 (by decide) (by decide))
      refine lv_aload_n E.1 E.2.1 dX11_isGoHere_110 rfl (lv_at hl 1 rfl) ?_
      refine t_get E G 11 5 (rfl : ro 386 = 11) (C := RX11) (T := TX11) (N := 37) rfl (by decide) (by decide) (by decide) mw_fl_11_20 (v := .ref (ad 390)) (fvl_o (n := 4) rfl) dX11_isGoHere_111 ?_
      refine lv_iload_n E.1 E.2.1 dX11_isGoHere_114 rfl (lv_at hl 0 rfl) ?_
      refine lv_iconst (v := 3) E.1 E.2.1 dX11_isGoHere_115 (by decide) ?_
      refine lv_iadd E.1 E.2.1 dX11_isGoHere_116 ?_
      refine lv_topi (fun v143 e144 => ?_)
      have b145 : iv 3 287 v143 := by rw [e144]; exact iv_add b38 (iv_lit (lo := 3) (hi := 3) 3 (by decide) (by decide)) (by decide) (by decide) (by decide) (by decide)
      have l146 : v143.toInt = 3 + 48 * v17.toInt + 4 * v25.toInt := (show v143.toInt = v36.toInt + 3 by rw [e144]; exact ti_addc 3 (by decide) b38 (by decide) (by decide)).trans (by omega)
      refine lv_aload_n E.1 E.2.1 dX11_isGoHere_117 rfl (lv_at hl 1 rfl) ?_
      refine t_get E G 11 4 (rfl : ro 386 = 11) (C := RX11) (T := TX11) (N := 37) rfl (by decide) (by decide) (by decide) mw_fl_11_17 (v := .ref (ad 389)) (fvl_o (n := 3) rfl) dX11_isGoHere_118 ?_
      refine lv_aload_n E.1 E.2.1 dX11_isGoHere_121 rfl (lv_at hl 1 rfl) ?_
      refine t_get E G 11 11 (rfl : ro 386 = 11) (C := RX11) (T := TX11) (N := 37) rfl (by decide) (by decide) (by decide) mw_fl_11_147 (fvl_i rfl) dX11_isGoHere_122 ?_
      refine m_ci v17 h129 ?_
      refine t_iald E G 47 (rfl : ro 389 = 47) (by decide) (by decide) rfl (n := 7) rfl (iv_vp b20 (by decide) (by decide)) dX11_isGoHere_125 ?_
      refine lv_topi (fun v147 e148 => ?_)
      have b149 : iv 0 400 v147 := by rw [e148]; exact iv_mono (rd_u oo124 47 (rfl : ro 389 = 47) (by decide) _) (by decide) (by decide)
      have h150 : v147.toNatClampNeg = Ln zz121 := ln_of h129 e148
      refine t_iast E G 48 (rfl : ro 390 = 48) (by decide) (by decide) rfl (n := 288) rfl (iv_vp b145 (by decide) (by decide)) dX11_isGoHere_126 (fun H locs G => ?_)
      have h151 : v143.toNatClampNeg = (48 * v17.toNatClampNeg + 4 * v25.toNatClampNeg + 3) := by have e : v143.toNatClampNeg = v143.toInt.toNat := rfl; have n1 := iv_nat b20 (by decide); have n2 := iv_nat b30 (by decide); have := l146; omega
      obtain ⟨zz164, G, oo165, kk166, h167, h152, h153, h154, h155, h156, h157, h158, h159, h160, h161, h162, h163⟩ : ∃ u : TS, mG D A s H locs (wd K ad u) ∧ Ok u ∧ KP3 z u ∧ tI u 386 11 = v17 ∧ (PIx u) ∧ (SLk z + 0 ≤ SLk u) ∧ (0 ≤ Hh u) ∧ (WFc u) ∧ (tA u 391 = tA z 391) ∧ (tA u 390 (48 * v17.toNatClampNeg + 4 * v25.toNatClampNeg + 0) = v40) ∧ (tA u 390 (48 * v17.toNatClampNeg + 4 * v25.toNatClampNeg + 1) = v81) ∧ (tA u 390 (48 * v17.toNatClampNeg + 4 * v25.toNatClampNeg + 2) = (-1)) ∧ (tA u 390 (48 * v17.toNatClampNeg + 4 * v25.toNatClampNeg + 3) = v147) ∧ (clk (Fz u) v40.toNatClampNeg v81.toNatClampNeg ∧ v81.toNatClampNeg ≤ Ln u) ∧ (Ln zz121 = Ln u) ∧ (Scx z u) := ⟨_, G, ok_u oo124 48 (rfl : ro 390 = 48) (wr48 (iv_mono b149 (by decide) (by decide))) (by decide), KPf.tr kk128 (KPf_r 48 (rfl : ro 390 = 48) (by decide)), h129, (pi_q h132 (Same.r (by decide)) h132.2.1 rfl rfl), (sl_q 0 h133 (Same.r (by decide)) (by show (tI zz121 386 8).toInt + 0 ≤ (tI zz121 386 8).toInt; omega) (by decide)), (hh_s (Same.r (by decide)) h135), (wf_cw h134 oo124 3 (by rw [h137]; exact h31) (by have n2 := iv_nat b30 (by decide); have := b30.2; omega) (by decide) h151), (sR_o h137 (by decide)), (by rw [sR_row]; unfold upd; rw [if_neg (by rw [h151]; omega)]; exact h138), (by rw [sR_row]; unfold upd; rw [if_neg (by rw [h151]; omega)]; exact h139), (by rw [sR_row]; unfold upd; rw [if_neg (by rw [h151]; omega)]; exact h140), (by rw [sR_row, h151]; unfold upd; rw [if_pos rfl]), (ck_s (Same.r (by decide)) h136), (Same.e (Same.r (by decide))).1.symm, h130⟩
      refine lv_aload_n E.1 E.2.1 dX11_isGoHere_127 rfl (lv_at hl 1 rfl) ?_
      refine t_get E G 11 6 (rfl : ro 386 = 11) (C := RX11) (T := TX11) (N := 37) rfl (by decide) (by decide) (by decide) mw_fl_11_23 (v := .ref (ad 391)) (fvl_o (n := 5) rfl) dX11_isGoHere_128 ?_
      refine lv_aload_n E.1 E.2.1 dX11_isGoHere_131 rfl (lv_at hl 1 rfl) ?_
      refine t_get E G 11 11 (rfl : ro 386 = 11) (C := RX11) (T := TX11) (N := 37) rfl (by decide) (by decide) (by decide) mw_fl_11_147 (fvl_i rfl) dX11_isGoHere_132 ?_
      refine m_ci v17 h167 ?_
      refine lv_dup2_11 E.1 E.2.1 dX11_isGoHere_135 rfl rfl ?_
      refine t_iald E G 49 (rfl : ro 391 = 49) (by decide) (by decide) rfl (n := 6) rfl (iv_vp b20 (by decide) (by decide)) dX11_isGoHere_136 ?_
      refine lv_topi (fun v168 e169 => ?_)
      have b170 : iv 0 12 v168 := by rw [e169]; exact iv_mono (rd_u oo165 49 (rfl : ro 391 = 49) (by decide) _) (by decide) (by decide)
      have h171 : v168 = tA z 391 v17.toNatClampNeg := by rw [e169, h156]
      have h172 : v168 = v25 := h171.trans h28.symm
      have b173 : iv 0 11 v168 := iv_eq h172 b30
      refine lv_iconst (v := 1) E.1 E.2.1 dX11_isGoHere_137 (by decide) ?_
      refine lv_iadd E.1 E.2.1 dX11_isGoHere_138 ?_
      refine lv_topi (fun v174 e175 => ?_)
      have b176 : iv 1 12 v174 := by rw [e175]; exact iv_add b173 (iv_lit (lo := 1) (hi := 1) 1 (by decide) (by decide)) (by decide) (by decide) (by decide) (by decide)
      have l177 : v174.toInt = 1 + 1 * v168.toInt := (show v174.toInt = v168.toInt + 1 by rw [e175]; exact ti_addc 1 (by decide) b173 (by decide) (by decide)).trans (by omega)
      refine t_iast E G 49 (rfl : ro 391 = 49) (by decide) (by decide) rfl (n := 6) rfl (iv_vp b20 (by decide) (by decide)) dX11_isGoHere_139 (fun H locs G => ?_)
      have ok178 : clok zz164 v17.toNatClampNeg v25.toNatClampNeg := clok_mk (tx_of h167.symm) h157 h158 h159 h160 h161 (Or.inl (by have e : (-1 : Int32).toInt = -1 := (by decide); omega))
      have h182 : v174.toInt = ((v25.toNatClampNeg : Nat) : Int) + 1 := by have e := congrArg Int32.toInt h172; have n := iv_nat b30 (by decide); have := l177; omega
      obtain ⟨zz186, G, oo187, kk188, h189, h179, h180, h181, h183, h184, h185⟩ : ∃ u : TS, mG D A s H locs (wd K ad u) ∧ Ok u ∧ KP3 z u ∧ tI u 386 11 = v17 ∧ (PIx u) ∧ (SLk z + 0 ≤ SLk u) ∧ (0 ≤ Hh u) ∧ (WFc u) ∧ ((tA u 391 (tx z)).toInt ≤ (tA z 391 (tx z)).toInt + 1) ∧ (Scx z u) := ⟨_, G, ok_u oo165 49 (rfl : ro 391 = 49) (wr_u (by decide) (iv_mono b176 (by decide) (by decide))) (by decide), KPf.tr kk166 (KPf_r 49 (rfl : ro 391 = 49) (by decide)), h167, (pi_q h152 (Same.r (by decide)) h152.2.1 rfl rfl), (sl_q 0 h153 (Same.r (by decide)) (by show (tI zz164 386 8).toInt + 0 ≤ (tI zz164 386 8).toInt; omega) (by decide)), (hh_s (Same.r (by decide)) h154), (wf_add h155 rfl (by rw [h156]; exact h31) h182 ok178), (by rw [sR_row, ← tx_of (e18.trans h9)]; unfold upd; rw [if_pos rfl, h182, h31]; exact Int.le_refl _), h163⟩
      refine lv_iconst (v := 1) E.1 E.2.1 dX11_isGoHere_140 (by decide) ?_
      exact RET G ⟨oo187, kk188, (iv_mono (iv_lit (lo := 1) (hi := 1) 1 (by decide) (by decide)) (by decide) (by decide)), h185, h179, (by have h := h180; omega), h183, h184, (fun _ => h181)⟩ (by decide) dX11_isGoHere_141
    · skip
      have b190 : iv 1 1 r122 := ne_lo c141 b126 (by decide) (by decide)
      refine lv_aload_n E.1 E.2.1 dX11_isGoHere_84 rfl (lv_at hl 1 rfl) ?_
      refine t_get E G 11 5 (rfl : ro 386 = 11) (C := RX11) (T := TX11) (N := 37) rfl (by decide) (by decide) (by decide) mw_fl_11_20 (v := .ref (ad 390)) (fvl_o (n := 4) rfl) dX11_isGoHere_85 ?_
      refine lv_iload_n E.1 E.2.1 dX11_isGoHere_88 rfl (lv_at hl 0 rfl) ?_
      refine lv_iconst (v := 2) E.1 E.2.1 dX11_isGoHere_89 (by decide) ?_
      refine lv_iadd E.1 E.2.1 dX11_isGoHere_90 ?_
      refine lv_topi (fun v191 e192 => ?_)
      have b193 : iv 2 286 v191 := by rw [e192]; exact iv_add b38 (iv_lit (lo := 2) (hi := 2) 2 (by decide) (by decide)) (by decide) (by decide) (by decide) (by decide)
      have l194 : v191.toInt = 2 + 48 * v17.toInt + 4 * v25.toInt := (show v191.toInt = v36.toInt + 2 by rw [e192]; exact ti_addc 2 (by decide) b38 (by decide) (by decide)).trans (by omega)
      refine lv_aload_n E.1 E.2.1 dX11_isGoHere_91 rfl (lv_at hl 1 rfl) ?_
      refine t_get E G 11 4 (rfl : ro 386 = 11) (C := RX11) (T := TX11) (N := 37) rfl (by decide) (by decide) (by decide) mw_fl_11_17 (v := .ref (ad 389)) (fvl_o (n := 3) rfl) dX11_isGoHere_92 ?_
      refine lv_aload_n E.1 E.2.1 dX11_isGoHere_95 rfl (lv_at hl 1 rfl) ?_
      refine t_get E G 11 11 (rfl : ro 386 = 11) (C := RX11) (T := TX11) (N := 37) rfl (by decide) (by decide) (by decide) mw_fl_11_147 (fvl_i rfl) dX11_isGoHere_96 ?_
      refine m_ci v17 h129 ?_
      refine t_iald E G 47 (rfl : ro 389 = 47) (by decide) (by decide) rfl (n := 7) rfl (iv_vp b20 (by decide) (by decide)) dX11_isGoHere_99 ?_
      refine lv_topi (fun v195 e196 => ?_)
      have b197 : iv 0 400 v195 := by rw [e196]; exact iv_mono (rd_u oo124 47 (rfl : ro 389 = 47) (by decide) _) (by decide) (by decide)
      have h198 : v195.toNatClampNeg = Ln zz121 := ln_of h129 e196
      refine t_iast E G 48 (rfl : ro 390 = 48) (by decide) (by decide) rfl (n := 288) rfl (iv_vp b193 (by decide) (by decide)) dX11_isGoHere_100 (fun H locs G => ?_)
      have h199 : v191.toNatClampNeg = (48 * v17.toNatClampNeg + 4 * v25.toNatClampNeg + 2) := by have e : v191.toNatClampNeg = v191.toInt.toNat := rfl; have n1 := iv_nat b20 (by decide); have n2 := iv_nat b30 (by decide); have := l194; omega
      obtain ⟨zz211, G, oo212, kk213, h214, h200, h201, h202, h203, h204, h205, h206, h207, h208, h209, h210⟩ : ∃ u : TS, mG D A s H locs (wd K ad u) ∧ Ok u ∧ KP3 z u ∧ tI u 386 11 = v17 ∧ (PIx u) ∧ (SLk z + 0 ≤ SLk u) ∧ (0 ≤ Hh u) ∧ (WFc u) ∧ (tA u 391 = tA z 391) ∧ (tA u 390 (48 * v17.toNatClampNeg + 4 * v25.toNatClampNeg + 0) = v40) ∧ (tA u 390 (48 * v17.toNatClampNeg + 4 * v25.toNatClampNeg + 1) = v81) ∧ (tA u 390 (48 * v17.toNatClampNeg + 4 * v25.toNatClampNeg + 2) = v195) ∧ (clk (Fz u) v40.toNatClampNeg v81.toNatClampNeg ∧ v81.toNatClampNeg ≤ Ln u) ∧ (Ln zz121 = Ln u) ∧ (Scx z u) := ⟨_, G, ok_u oo124 48 (rfl : ro 390 = 48) (wr48 (iv_mono b197 (by decide) (by decide))) (by decide), KPf.tr kk128 (KPf_r 48 (rfl : ro 390 = 48) (by decide)), h129, (pi_q h132 (Same.r (by decide)) h132.2.1 rfl rfl), (sl_q 0 h133 (Same.r (by decide)) (by show (tI zz121 386 8).toInt + 0 ≤ (tI zz121 386 8).toInt; omega) (by decide)), (hh_s (Same.r (by decide)) h135), (wf_cw h134 oo124 2 (by rw [h137]; exact h31) (by have n2 := iv_nat b30 (by decide); have := b30.2; omega) (by decide) h199), (sR_o h137 (by decide)), (by rw [sR_row]; unfold upd; rw [if_neg (by rw [h199]; omega)]; exact h138), (by rw [sR_row]; unfold upd; rw [if_neg (by rw [h199]; omega)]; exact h139), (by rw [sR_row, h199]; unfold upd; rw [if_pos rfl]), (ck_s (Same.r (by decide)) h136), (Same.e (Same.r (by decide))).1.symm, h130⟩
      refine lv_aload_n E.1 E.2.1 dX11_isGoHere_101 rfl (lv_at hl 1 rfl) ?_
      refine t_vi E G hl (v_tested l D K ad zz211 oo212 h200 (by have h1 := hs; have h2 := h201; omega)) 11 (rfl : ro 386 = 11) (by decide) rfl rfl 0 rfl mw_code_X11_tested mw_ini_11 mw_ml_11_216 mw_inst_X11_tested mw_sel_X11_tested hd_X11_tested ⟨Nat.le_trans (by decide) hfr, Nat.le_trans (by decide) hlo⟩ rfl rfl rfl (Nat.le_of_ble_eq_true rfl) dX11_isGoHere_102 (fun r216 zz215 H locs hp217 G => ?_)
      obtain ⟨oo218, kk219, b220, h221, h222, h223, h224⟩ := hp217
      have kk225 : KP3 z zz215 := KPf.tr kk213 (KP2.p3 kk219)
      have h226 : tI zz215 386 11 = v17 := KPf.i kk219 11 (rfl : ro 386 = 11) (by decide) h214
      have h227 := Scx.tr h210 h221
      have h228 : SLk z + 0 ≤ SLk zz215 := by have h1 := h201; have h2 := h223; omega
      have h229 : WFc zz215 := wf_kp h203 kk219 rfl rfl
      have h230 : tA zz215 391 = tA z 391 := (kk219.2.1 391 rfl).1.trans h204
      have h231 : tA zz215 390 (48 * v17.toNatClampNeg + 4 * v25.toNatClampNeg + 0) = v40 := by rw [(kk219.2.1 390 rfl).1]; exact h205
      have h232 : tA zz215 390 (48 * v17.toNatClampNeg + 4 * v25.toNatClampNeg + 1) = v81 := by rw [(kk219.2.1 390 rfl).1]; exact h206
      have h233 : tA zz215 390 (48 * v17.toNatClampNeg + 4 * v25.toNatClampNeg + 2) = v195 := by rw [(kk219.2.1 390 rfl).1]; exact h207
      refine lv_if_ne (tgt := 110) E.1 E.2.1 dX11_isGoHere_105 (by decide) (fun c234 => ?_) (fun c234 => ?_)
      · skip
        have b235 : iv 1 1 r216 := ne_lo c234 b220 (by decide) (by decide)
        have h236 := clk_sum (h224 c234) kk219 h222 oo218 h202 (by have h1 := hs; have h2 := h228; omega)
        refine lv_aload_n E.1 E.2.1 dX11_isGoHere_110 rfl (lv_at hl 1 rfl) ?_
        refine t_get E G 11 5 (rfl : ro 386 = 11) (C := RX11) (T := TX11) (N := 37) rfl (by decide) (by decide) (by decide) mw_fl_11_20 (v := .ref (ad 390)) (fvl_o (n := 4) rfl) dX11_isGoHere_111 ?_
        refine lv_iload_n E.1 E.2.1 dX11_isGoHere_114 rfl (lv_at hl 0 rfl) ?_
        refine lv_iconst (v := 3) E.1 E.2.1 dX11_isGoHere_115 (by decide) ?_
        refine lv_iadd E.1 E.2.1 dX11_isGoHere_116 ?_
        refine lv_topi (fun v237 e238 => ?_)
        have b239 : iv 3 287 v237 := by rw [e238]; exact iv_add b38 (iv_lit (lo := 3) (hi := 3) 3 (by decide) (by decide)) (by decide) (by decide) (by decide) (by decide)
        have l240 : v237.toInt = 3 + 48 * v17.toInt + 4 * v25.toInt := (show v237.toInt = v36.toInt + 3 by rw [e238]; exact ti_addc 3 (by decide) b38 (by decide) (by decide)).trans (by omega)
        refine lv_aload_n E.1 E.2.1 dX11_isGoHere_117 rfl (lv_at hl 1 rfl) ?_
        refine t_get E G 11 4 (rfl : ro 386 = 11) (C := RX11) (T := TX11) (N := 37) rfl (by decide) (by decide) (by decide) mw_fl_11_17 (v := .ref (ad 389)) (fvl_o (n := 3) rfl) dX11_isGoHere_118 ?_
        refine lv_aload_n E.1 E.2.1 dX11_isGoHere_121 rfl (lv_at hl 1 rfl) ?_
        refine t_get E G 11 11 (rfl : ro 386 = 11) (C := RX11) (T := TX11) (N := 37) rfl (by decide) (by decide) (by decide) mw_fl_11_147 (fvl_i rfl) dX11_isGoHere_122 ?_
        refine m_ci v17 h226 ?_
        refine t_iald E G 47 (rfl : ro 389 = 47) (by decide) (by decide) rfl (n := 7) rfl (iv_vp b20 (by decide) (by decide)) dX11_isGoHere_125 ?_
        refine lv_topi (fun v241 e242 => ?_)
        have b243 : iv 0 400 v241 := by rw [e242]; exact iv_mono (rd_u oo218 47 (rfl : ro 389 = 47) (by decide) _) (by decide) (by decide)
        have h244 : v241.toNatClampNeg = Ln zz215 := ln_of h226 e242
        refine t_iast E G 48 (rfl : ro 390 = 48) (by decide) (by decide) rfl (n := 288) rfl (iv_vp b239 (by decide) (by decide)) dX11_isGoHere_126 (fun H locs G => ?_)
        have h245 : v237.toNatClampNeg = (48 * v17.toNatClampNeg + 4 * v25.toNatClampNeg + 3) := by have e : v237.toNatClampNeg = v237.toInt.toNat := rfl; have n1 := iv_nat b20 (by decide); have n2 := iv_nat b30 (by decide); have := l240; omega
        have h255 : clk (Fz zz215) v195.toNatClampNeg v241.toNatClampNeg ∧ v241.toNatClampNeg ≤ Ln zz215 := by rw [h244, h198, h209]; exact h236.1
        obtain ⟨zz260, G, oo261, kk262, h263, h246, h247, h248, h249, h250, h251, h252, h253, h254, h256, h257, h258, h259⟩ : ∃ u : TS, mG D A s H locs (wd K ad u) ∧ Ok u ∧ KP3 z u ∧ tI u 386 11 = v17 ∧ (PIx u) ∧ (SLk z + 0 ≤ SLk u) ∧ (0 ≤ Hh u) ∧ (WFc u) ∧ (tA u 391 = tA z 391) ∧ (tA u 390 (48 * v17.toNatClampNeg + 4 * v25.toNatClampNeg + 0) = v40) ∧ (tA u 390 (48 * v17.toNatClampNeg + 4 * v25.toNatClampNeg + 1) = v81) ∧ (tA u 390 (48 * v17.toNatClampNeg + 4 * v25.toNatClampNeg + 2) = v195) ∧ (tA u 390 (48 * v17.toNatClampNeg + 4 * v25.toNatClampNeg + 3) = v241) ∧ (clk (Fz u) v40.toNatClampNeg v81.toNatClampNeg ∧ v81.toNatClampNeg ≤ Ln u) ∧ (clk (Fz u) v195.toNatClampNeg v241.toNatClampNeg ∧ v241.toNatClampNeg ≤ Ln u) ∧ (Ln zz215 = Ln u) ∧ (Scx z u) := ⟨_, G, ok_u oo218 48 (rfl : ro 390 = 48) (wr48 (iv_mono b243 (by decide) (by decide))) (by decide), KPf.tr kk225 (KPf_r 48 (rfl : ro 390 = 48) (by decide)), h226, (pi_q h222 (Same.r (by decide)) h222.2.1 rfl rfl), (sl_q 0 h228 (Same.r (by decide)) (by show (tI zz215 386 8).toInt + 0 ≤ (tI zz215 386 8).toInt; omega) (by decide)), (hh_s (Same.r (by decide)) h236.2), (wf_cw h229 oo218 3 (by rw [h230]; exact h31) (by have n2 := iv_nat b30 (by decide); have := b30.2; omega) (by decide) h245), (sR_o h230 (by decide)), (by rw [sR_row]; unfold upd; rw [if_neg (by rw [h245]; omega)]; exact h231), (by rw [sR_row]; unfold upd; rw [if_neg (by rw [h245]; omega)]; exact h232), (by rw [sR_row]; unfold upd; rw [if_neg (by rw [h245]; omega)]; exact h233), (by rw [sR_row, h245]; unfold upd; rw [if_pos rfl]), (ck_s (Same.r (by decide)) (ck_k kk219 h208)), (ck_s (Same.r (by decide)) h255), (Same.e (Same.r (by decide))).1.symm, h227⟩
        refine lv_aload_n E.1 E.2.1 dX11_isGoHere_127 rfl (lv_at hl 1 rfl) ?_
        refine t_get E G 11 6 (rfl : ro 386 = 11) (C := RX11) (T := TX11) (N := 37) rfl (by decide) (by decide) (by decide) mw_fl_11_23 (v := .ref (ad 391)) (fvl_o (n := 5) rfl) dX11_isGoHere_128 ?_
        refine lv_aload_n E.1 E.2.1 dX11_isGoHere_131 rfl (lv_at hl 1 rfl) ?_
        refine t_get E G 11 11 (rfl : ro 386 = 11) (C := RX11) (T := TX11) (N := 37) rfl (by decide) (by decide) (by decide) mw_fl_11_147 (fvl_i rfl) dX11_isGoHere_132 ?_
        refine m_ci v17 h263 ?_
        refine lv_dup2_11 E.1 E.2.1 dX11_isGoHere_135 rfl rfl ?_
        refine t_iald E G 49 (rfl : ro 391 = 49) (by decide) (by decide) rfl (n := 6) rfl (iv_vp b20 (by decide) (by decide)) dX11_isGoHere_136 ?_
        refine lv_topi (fun v264 e265 => ?_)
        have b266 : iv 0 12 v264 := by rw [e265]; exact iv_mono (rd_u oo261 49 (rfl : ro 391 = 49) (by decide) _) (by decide) (by decide)
        have h267 : v264 = tA z 391 v17.toNatClampNeg := by rw [e265, h250]
        have h268 : v264 = v25 := h267.trans h28.symm
        have b269 : iv 0 11 v264 := iv_eq h268 b30
        refine lv_iconst (v := 1) E.1 E.2.1 dX11_isGoHere_137 (by decide) ?_
        refine lv_iadd E.1 E.2.1 dX11_isGoHere_138 ?_
        refine lv_topi (fun v270 e271 => ?_)
        have b272 : iv 1 12 v270 := by rw [e271]; exact iv_add b269 (iv_lit (lo := 1) (hi := 1) 1 (by decide) (by decide)) (by decide) (by decide) (by decide) (by decide)
        have l273 : v270.toInt = 1 + 1 * v264.toInt := (show v270.toInt = v264.toInt + 1 by rw [e271]; exact ti_addc 1 (by decide) b269 (by decide) (by decide)).trans (by omega)
        refine t_iast E G 49 (rfl : ro 391 = 49) (by decide) (by decide) rfl (n := 6) rfl (iv_vp b20 (by decide) (by decide)) dX11_isGoHere_139 (fun H locs G => ?_)
        have ok274 : clok zz260 v17.toNatClampNeg v25.toNatClampNeg := clok_mk (tx_of h263.symm) h251 h252 h253 h254 h256 (Or.inr h257)
        have h278 : v270.toInt = ((v25.toNatClampNeg : Nat) : Int) + 1 := by have e := congrArg Int32.toInt h268; have n := iv_nat b30 (by decide); have := l273; omega
        obtain ⟨zz282, G, oo283, kk284, h285, h275, h276, h277, h279, h280, h281⟩ : ∃ u : TS, mG D A s H locs (wd K ad u) ∧ Ok u ∧ KP3 z u ∧ tI u 386 11 = v17 ∧ (PIx u) ∧ (SLk z + 0 ≤ SLk u) ∧ (0 ≤ Hh u) ∧ (WFc u) ∧ ((tA u 391 (tx z)).toInt ≤ (tA z 391 (tx z)).toInt + 1) ∧ (Scx z u) := ⟨_, G, ok_u oo261 49 (rfl : ro 391 = 49) (wr_u (by decide) (iv_mono b272 (by decide) (by decide))) (by decide), KPf.tr kk262 (KPf_r 49 (rfl : ro 391 = 49) (by decide)), h263, (pi_q h246 (Same.r (by decide)) h246.2.1 rfl rfl), (sl_q 0 h247 (Same.r (by decide)) (by show (tI zz260 386 8).toInt + 0 ≤ (tI zz260 386 8).toInt; omega) (by decide)), (hh_s (Same.r (by decide)) h248), (wf_add h249 rfl (by rw [h250]; exact h31) h278 ok274), (by rw [sR_row, ← tx_of (e18.trans h9)]; unfold upd; rw [if_pos rfl, h278, h31]; exact Int.le_refl _), h259⟩
        refine lv_iconst (v := 1) E.1 E.2.1 dX11_isGoHere_140 (by decide) ?_
        exact RET G ⟨oo283, kk284, (iv_mono (iv_lit (lo := 1) (hi := 1) 1 (by decide) (by decide)) (by decide) (by decide)), h281, h275, (by have h := h276; omega), h279, h280, (fun _ => h277)⟩ (by decide) dX11_isGoHere_141
      · skip
        have b286 : iv 0 0 r216 := iv_eq c234 (iv_lit (lo := 0) (hi := 0) 0 (by decide) (by decide))
        refine lv_iconst (v := 0) E.1 E.2.1 dX11_isGoHere_108 (by decide) ?_
        exact RET G ⟨oo218, kk225, (iv_mono (iv_lit (lo := 0) (hi := 0) 0 (by decide) (by decide)) (by decide) (by decide)), h227, h222, (by have h := h228; omega), h229, (by rw [h230]; omega), (fun h => absurd rfl h)⟩ (by decide) dX11_isGoHere_109
  · skip
    have b287 : iv 0 0 r58 := iv_eq c74 (iv_lit (lo := 0) (hi := 0) 0 (by decide) (by decide))
    refine lv_iconst (v := 0) E.1 E.2.1 dX11_isGoHere_46 (by decide) ?_
    exact RET G ⟨oo60, kk67, (iv_mono (iv_lit (lo := 0) (hi := 0) 0 (by decide) (by decide)) (by decide) (by decide)), h69, h64, (by have h := h70; omega), h71, (by rw [h72]; omega), (fun h => absurd rfl h)⟩ (by decide) dX11_isGoHere_47
