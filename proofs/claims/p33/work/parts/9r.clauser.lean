theorem mw_cL_11_244 : (Cond.constantLong RX11 244 (26479) : Cond) ∈ cw := cw_of (List.mem_append_right _ (List.mem_append_right _ (List.mem_append_right _ (List.mem_append_right _ (List.mem_append_right _ (List.mem_append_right _ (List.mem_append_left _ (List.mem_of_getElem? (i := 24) (by decide +kernel))))))))) (by decide +kernel)
theorem mw_code_X11_isGoHere : (Cond.code yX11_isGoHere cX11_isGoHere 2 (some .boolean) : Cond) ∈ cw := cw_of (List.mem_append_right _ (List.mem_append_right _ (List.mem_append_right _ (List.mem_append_right _ (List.mem_append_right _ (List.mem_append_right _ (List.mem_append_left _ (List.mem_of_getElem? (i := 71) rfl)))))))) (by decide +kernel)
theorem mw_inst_X11_isGoHere : (Cond.instanceMethod yX11_isGoHere : Cond) ∈ cw := cw_of (List.mem_append_right _ (List.mem_append_right _ (List.mem_append_right _ (List.mem_append_right _ (List.mem_append_right _ (List.mem_append_right _ (List.mem_append_left _ (List.mem_of_getElem? (i := 70) (by decide +kernel))))))))) (by decide +kernel)
theorem mw_ml_11_252 : (Cond.methodLink RX11 252 yX11_isGoHere : Cond) ∈ cw := cw_of (List.mem_append_right _ (List.mem_append_right _ (List.mem_append_right _ (List.mem_append_right _ (List.mem_append_right _ (List.mem_append_right _ (List.mem_append_left _ (List.mem_of_getElem? (i := 68) (by decide +kernel))))))))) (by decide +kernel)
theorem mw_sel_X11_isGoHere : (Cond.selects RX11 yX11_isGoHere yX11_isGoHere : Cond) ∈ cw := cw_of (List.mem_append_left _ (List.mem_of_getElem? (i := 64) (by decide +kernel))) (by decide +kernel)
theorem dX11_clauseHere_23 : decode cX11_clauseHere 23 = .ok (.iconst 0, 1) := by decide +kernel
theorem dX11_clauseHere_39 : decode cX11_clauseHere 39 = .ok (.aload_n 0, 1) := by decide +kernel
theorem dX11_clauseHere_40 : decode cX11_clauseHere 40 = .ok (.ldc2_w 244, 3) := by decide +kernel
theorem dX11_clauseHere_43 : decode cX11_clauseHere 43 = .ok (.invokevirtual 104, 3) := by decide +kernel
theorem dX11_clauseHere_46 : decode cX11_clauseHere 46 = .ok (.ifCond .ne 10, 3) := by decide +kernel
theorem dX11_clauseHere_69 : decode cX11_clauseHere 69 = .ok (.bipush 12, 2) := by decide +kernel
theorem dX11_clauseHere_103 : decode cX11_clauseHere 103 = .ok (.aload_n 0, 1) := by decide +kernel
theorem dX11_clauseHere_104 : decode cX11_clauseHere 104 = .ok (.invokevirtual 252, 3) := by decide +kernel
theorem hd_X11_isGoHere : yX11_isGoHere.cls ≠ "java/lang/invoke/MethodHandle" ∧ yX11_isGoHere.cls ≠ "java/lang/invoke/VarHandle" ∧ (parseMethodDescriptor yX11_isGoHere.desc).map (fun d => d.parameters.length) = some 0 := ⟨by decide +kernel, by decide +kernel, by decide +kernel⟩
set_option maxHeartbeats 4000000 in
set_option maxRecDepth 100000 in
theorem v_clauseR (l : Launch) (D : va_G) (K : Nat → ClassId) (ad : Nat → Nat) (z : TS) (o : Ok z) (hp : PIx z) (hs : 0 ≤ SLk z) (hh : 0 ≤ Hh z) (wf : WFc z) (hcl : (tA z 391 (tx z)).toInt ≤ (tI z 386 14).toInt) (hli : (tI z 386 14).toInt ≤ 12) : cI l yX11_clauseHere cX11_clauseHere 3 .boolean ({ frames := 10, cells := 0, slots := 0, locals := 219 }) D K ad z [.ref (ad 386)] (fun r u => Ok u ∧ KP4 z u ∧ iv 0 1 r ∧ (Scx z u) ∧ (PIx u) ∧ (SLk z ≤ SLk u) ∧ (WFc u) ∧ (¬ r = 0 → 0 ≤ Hh u ∧ (tA u 391 (tx z)).toInt ≤ (tI u 386 14).toInt ∧ (tI u 386 14).toInt ≤ 12)) := by
  have sc0 : Scx z z := Scx.rf hp.2.1
  have sl_0 : SLk z + 0 ≤ SLk z := sl_0
  have crow0 : tA z 391 = tA z 391 := rfl
  have hlb : iv 0 12 (tI z 386 14) := ⟨Int.le_trans (rd_u o (j := 391) 49 rfl rfl _).1 hcl, hli⟩
  refine t_enterI (by decide) (Nat.le_of_ble_eq_true rfl) rfl rfl ?_
  intro p e s m args below meth c A R Q H locs ls E hfr hlo RET G hl
  have E : mE p s m meth c cX11_clauseHere args 3 RX11 D K A := E
  have hl : lv_has ls 3 [(0, .ref (ad 386))] := hl
  refine lv_aload_n E.1 E.2.1 dX11_clauseHere_0 rfl (lv_at hl 0 rfl) ?_
  refine t_vi E G hl (v_see l D K ad z o sc0.1) 11 (rfl : ro 386 = 11) (by decide) rfl rfl 0 rfl mw_code_X11_see mw_ini_11 mw_ml_11_96 mw_inst_X11_see mw_sel_X11_see hd_X11_see ⟨Nat.le_trans (by decide) hfr, Nat.le_trans (by decide) hlo⟩ rfl rfl rfl (Nat.le_of_ble_eq_true rfl) dX11_clauseHere_1 (fun r2 zz1 H locs hp3 G => ?_)
  obtain ⟨oo4, kk5, b6, h7, h8, h9, h10⟩ := hp3
  have kk11 : KP4 z zz1 := KPf.tr KPf.rf (KN8.p4 kk5)
  have h12 : tI zz1 386 11 = (tI z 386 11) := KF.i kk5 11 (rfl : ro 386 = 11) (by decide) rfl
  have h13 : tI zz1 386 14 = (tI z 386 14) := KF.i kk5 11 (rfl : ro 386 = 11) (by decide) rfl
  have h14 := Scx.tr sc0 h7
  have sm15 := Same.of kk5 rfl rfl rfl
  have h16 : PIx zz1 := pi_q hp sm15 h14.1 (kk5.1 386 12 rfl) (kk5.1 386 11 rfl)
  have h17 : SLk z + 0 ≤ SLk zz1 := sl_q 0 sl_0 sm15 (by have h := h7.2; omega) (by decide)
  have h18 : WFc zz1 := wf_ka wf kk5.2.1 rfl rfl rfl rfl
  have h19 := hh_s sm15 hh
  have h20 : tA zz1 391 = tA z 391 := (kk5.2.1 391 rfl).1.trans crow0
  refine lv_pop E.1 E.2.1 dX11_clauseHere_4 rfl ?_
  refine lv_aload_n E.1 E.2.1 dX11_clauseHere_5 rfl (lv_at hl 0 rfl) ?_
  refine t_get E G 11 8 (rfl : ro 386 = 11) (C := RX11) (T := TX11) (N := 37) rfl (by decide) (by decide) (by decide) mw_fl_11_93 (fvl_i rfl) dX11_clauseHere_6 ?_
  refine lv_topi (fun v21 e22 => ?_)
  have b23 : iv 0 400 v21 := by rw [e22]; exact oo4.i 11 8 (rfl : ro 386 = 11)
  refine lv_istore_n (lv' := [(1, .int v21), (0, .ref (ad 386))]) E.1 E.2.1 dX11_clauseHere_9 rfl hl (by decide) rfl (fun ls hl => ?_)
  refine lv_aload_n E.1 E.2.1 dX11_clauseHere_10 rfl (lv_at hl 1 rfl) ?_
  refine t_get E G 11 11 (rfl : ro 386 = 11) (C := RX11) (T := TX11) (N := 37) rfl (by decide) (by decide) (by decide) mw_fl_11_147 (fvl_i rfl) dX11_clauseHere_11 ?_
  refine lv_topi (fun v24 e25 => ?_)
  have b26 : iv 0 6 v24 := by rw [e25]; exact oo4.i 11 11 (rfl : ro 386 = 11)
  have b27 : iv 0 5 v24 := by rw [(e25.trans h12)]; exact hp.1
  refine lv_bipush (v := 6) E.1 E.2.1 dX11_clauseHere_14 (by decide) ?_
  refine lv_icmp_ne (tgt := 23) E.1 E.2.1 dX11_clauseHere_16 (by decide) (fun _ => ?_) (fun h => absurd h (ivne1 b27 (iv_lit (lo := 6) (hi := 6) 6 (by decide) (by decide)) (by decide)))
  refine lv_iconst (v := 0) E.1 E.2.1 dX11_clauseHere_23 (by decide) ?_
  refine lv_istore_n (lv' := [(2, .int 0), (1, .int v21), (0, .ref (ad 386))]) E.1 E.2.1 dX11_clauseHere_24 rfl hl (by decide) rfl (fun ls hl => ?_)
  refine lv_iload_n E.1 E.2.1 dX11_clauseHere_25 rfl (lv_at hl 0 rfl) ?_
  refine lv_if_eq (tgt := 39) E.1 E.2.1 dX11_clauseHere_26 (by decide) (fun _ => ?_) (fun h => absurd (by decide) h)
  refine lv_aload_n E.1 E.2.1 dX11_clauseHere_39 rfl (lv_at hl 2 rfl) ?_
  refine lv_ldc2 (v := 26479) E.1 E.2.1 E.2.2.2.1 (E.2.2.2.2.1 _ mw_cL_11_244) dX11_clauseHere_40 ?_
  refine t_vi E G hl (v_isWord l D K ad zz1 oo4 26479 h14.1) 11 (rfl : ro 386 = 11) (by decide) rfl rfl 1 rfl mw_code_X11_isWord mw_ini_11 mw_ml_11_104 mw_inst_X11_isWord mw_sel_X11_isWord hd_X11_isWord ⟨Nat.le_trans (by decide) hfr, Nat.le_trans (by decide) hlo⟩ rfl rfl rfl (Nat.le_of_ble_eq_true rfl) dX11_clauseHere_43 (fun r29 zz28 H locs hp30 G => ?_)
  obtain ⟨oo31, kk32, b33, h34, h35, h36, h37⟩ := hp30
  have kk38 : KP4 z zz28 := KPf.tr kk11 (KN8.p4 kk32)
  have h39 : tI zz28 386 11 = v24 := KF.i kk32 11 (rfl : ro 386 = 11) (by decide) e25.symm
  have h40 : tI zz28 386 14 = (tI z 386 14) := KF.i kk32 11 (rfl : ro 386 = 11) (by decide) h13
  have h41 := Scx.tr h14 h34
  have sm42 := Same.of kk32 rfl rfl rfl
  have h43 : PIx zz28 := pi_q h16 sm42 h41.1 (kk32.1 386 12 rfl) (kk32.1 386 11 rfl)
  have h44 : SLk z + 0 ≤ SLk zz28 := sl_q 0 h17 sm42 (by have h := h34.2; omega) (by decide)
  have h45 : WFc zz28 := wf_ka h18 kk32.2.1 rfl rfl rfl rfl
  have h46 := hh_s sm42 h19
  have h47 : tA zz28 391 = tA z 391 := (kk32.2.1 391 rfl).1.trans h20
  refine lv_if_ne (tgt := 56) E.1 E.2.1 dX11_clauseHere_46 (by decide) (fun c48 => ?_) (fun c48 => ?_)
  · skip
    have b49 : iv 1 1 r29 := ne_lo c48 b33 (by decide) (by decide)
    have h50 : LTx zz28 := h37 c48
    refine lv_aload_n E.1 E.2.1 dX11_clauseHere_56 rfl (lv_at hl 2 rfl) ?_
    refine t_get E G 11 14 (rfl : ro 386 = 11) (C := RX11) (T := TX11) (N := 37) rfl (by decide) (by decide) (by decide) mw_fl_11_246 (fvl_i rfl) dX11_clauseHere_57 ?_
    refine lv_topi (fun v51 e52 => ?_)
    have b53 : iv 0 12 v51 := by rw [(e52.trans h40)]; exact hlb
    refine lv_iload_n E.1 E.2.1 dX11_clauseHere_60 rfl (lv_at hl 0 rfl) ?_
    refine lv_if_eq (tgt := 69) E.1 E.2.1 dX11_clauseHere_61 (by decide) (fun _ => ?_) (fun h => absurd (by decide) h)
    refine lv_bipush (v := 12) E.1 E.2.1 dX11_clauseHere_69 (by decide) ?_
    refine lv_icmp_ne (tgt := 81) E.1 E.2.1 dX11_clauseHere_71 (by decide) (fun c54 => ?_) (fun c54 => ?_)
    · skip
      have b55 : iv 0 11 v51 := ne_hi c54 b53 (by decide) (by decide)
      refine lv_aload_n E.1 E.2.1 dX11_clauseHere_81 rfl (lv_at hl 2 rfl) ?_
      refine lv_dup E.1 E.2.1 dX11_clauseHere_82 rfl ?_
      refine t_get E G 11 14 (rfl : ro 386 = 11) (C := RX11) (T := TX11) (N := 37) rfl (by decide) (by decide) (by decide) mw_fl_11_246 (fvl_i rfl) dX11_clauseHere_83 ?_
      refine m_ci v51 e52.symm ?_
      refine lv_iconst (v := 1) E.1 E.2.1 dX11_clauseHere_86 (by decide) ?_
      refine lv_iadd E.1 E.2.1 dX11_clauseHere_87 ?_
      refine lv_topi (fun v56 e57 => ?_)
      have b58 : iv 1 12 v56 := by rw [e57]; exact iv_add b55 (iv_lit (lo := 1) (hi := 1) 1 (by decide) (by decide)) (by decide) (by decide) (by decide) (by decide)
      have l59 : v56.toInt = 1 + 1 * v51.toInt := (show v56.toInt = v51.toInt + 1 by rw [e57]; exact ti_addc 1 (by decide) b55 (by decide) (by decide)).trans (by omega)
      refine t_puti E G 11 14 (rfl : ro 386 = 11) (C := RX11) (T := TX11) (N := 37) rfl (by decide) (by decide) (by decide) rfl rfl mw_fl_11_246 rfl dX11_clauseHere_88 (fun H locs G => ?_)
      obtain ⟨zz67, G, oo68, kk69, h70, h71, h60, h61, h62, h63, h64, h65, h66⟩ : ∃ u : TS, mG D A s H locs (wd K ad u) ∧ Ok u ∧ KP4 z u ∧ tI u 386 11 = v24 ∧ tI u 386 14 = v56 ∧ (Scx z u) ∧ (LTx u) ∧ (PIx u) ∧ (SLk z + 0 ≤ SLk u) ∧ (0 ≤ Hh u) ∧ (WFc u) ∧ (tA u 391 = tA z 391) := ⟨_, G, ok_i oo31 11 (rfl : ro 386 = 11) (iv_mono b58 (by decide) (by decide)) (by decide), KPf.tr kk38 (KPf_i 11 (rfl : ro 386 = 11) (by decide)), (sI_k h39 (by decide)), sI_self, h41, h50, (pi_q h43 (Same.i (by decide)) h43.2.1 rfl rfl), (sl_q 0 h44 (Same.i (by decide)) (by show (tI zz28 386 8).toInt + 0 ≤ (tI zz28 386 8).toInt; omega) (by decide)), (hh_s (Same.i (by decide)) h46), h45, h47⟩
      refine lv_iload_n E.1 E.2.1 dX11_clauseHere_91 rfl (lv_at hl 0 rfl) ?_
      refine lv_if_eq (tgt := 103) E.1 E.2.1 dX11_clauseHere_92 (by decide) (fun _ => ?_) (fun h => absurd (by decide) h)
      refine lv_aload_n E.1 E.2.1 dX11_clauseHere_103 rfl (lv_at hl 2 rfl) ?_
      refine t_vi E G hl (v_isGoHere l D K ad zz67 oo68 h62 (by have h1 := hs; have h2 := h63; omega) h64 h65 (by rw [h66, kk69.2.2.2.2.2.2.2.2]; have h1 := hcl; have e := congrArg Int32.toInt (e52.trans h40); have h2 := b55.2; omega)) 11 (rfl : ro 386 = 11) (by decide) rfl rfl 0 rfl mw_code_X11_isGoHere mw_ini_11 mw_ml_11_252 mw_inst_X11_isGoHere mw_sel_X11_isGoHere hd_X11_isGoHere ⟨Nat.le_trans (by decide) hfr, Nat.le_trans (by decide) hlo⟩ rfl rfl rfl (Nat.le_of_ble_eq_true rfl) dX11_clauseHere_104 (fun r73 zz72 H locs hp74 G => ?_)
      obtain ⟨oo75, kk76, b77, h78, h79, h80, h81, h82, h83⟩ := hp74
      have kk84 : KP4 z zz72 := KPf.tr kk69 (KP3.p4 kk76)
      have h85 : tI zz72 386 11 = v24 := KPf.i kk76 11 (rfl : ro 386 = 11) (by decide) h70
      have h86 : tI zz72 386 14 = v56 := KPf.i kk76 11 (rfl : ro 386 = 11) (by decide) h71
      have h87 := Scx.tr h60 h78
      have h88 : SLk z + 0 ≤ SLk zz72 := by have h1 := h63; have h2 := h80; omega
      exact RET G ⟨oo75, kk84, (iv_mono b77 (by decide) (by decide)), h87, h79, (by have h := h88; omega), h81, (fun q => ⟨h83 q, by have h1 := h82; rw [kk69.2.2.2.2.2.2.2.2, h66] at h1; have h2 := hcl; have e := congrArg Int32.toInt (e52.trans h40); have e2 := congrArg Int32.toInt h86; have := l59; omega, by have e2 := congrArg Int32.toInt h86; have := b58.2; omega⟩)⟩ (nar_b b77) dX11_clauseHere_107
    · skip
      have b89 : iv 12 12 v51 := iv_eq c54 (iv_lit (lo := 12) (hi := 12) 12 (by decide) (by decide))
      refine lv_aload_n E.1 E.2.1 dX11_clauseHere_74 rfl (lv_at hl 2 rfl) ?_
      refine lv_iconst (v := 4) E.1 E.2.1 dX11_clauseHere_75 (by decide) ?_
      refine lv_iload_n E.1 E.2.1 dX11_clauseHere_76 rfl (lv_at hl 1 rfl) ?_
      refine t_vi E G hl (v_fails l D K ad zz28 oo31 (4 : Int32) v21) 11 (rfl : ro 386 = 11) (by decide) rfl rfl 2 rfl mw_code_X11_fails mw_ini_11 mw_ml_11_114 mw_inst_X11_fails mw_sel_X11_fails hd_X11_fails ⟨Nat.le_trans (by decide) hfr, Nat.le_trans (by decide) hlo⟩ rfl rfl rfl (Nat.le_of_ble_eq_true rfl) dX11_clauseHere_77 (fun r91 zz90 H locs hp92 G => ?_)
      obtain ⟨oo93, kk94, b95⟩ := hp92
      have kk96 : KP4 z zz90 := KPf.tr kk38 (KA9.p4 kk94)
      have h97 : tI zz90 386 11 = v24 := KF.i kk94 11 (rfl : ro 386 = 11) (by decide) h39
      have h98 : tI zz90 386 14 = v51 := KF.i kk94 11 (rfl : ro 386 = 11) (by decide) e52.symm
      have h99 := Scx.tr h41 (Scx.k h41.1 kk94 rfl rfl)
      have h100 : LTx zz90 := LTx.k h50 kk94 (kk94.1 386 8 rfl) rfl rfl
      have sm101 := Same.of kk94 rfl rfl rfl
      have h102 : PIx zz90 := pi_q h43 sm101 h99.1 (kk94.1 386 12 rfl) (kk94.1 386 11 rfl)
      have h103 : SLk z + 0 ≤ SLk zz90 := sl_q 0 h44 sm101 (by rw [kk94.1 386 8 rfl]; omega) (by decide)
      have h104 : WFc zz90 := wf_ka h45 kk94.2.1 rfl rfl rfl rfl
      exact RET G ⟨oo93, kk96, (iv_mono b95 (by decide) (by decide)), h99, h102, (by have h := h103; omega), h104, (fun h => absurd (zero_of b95) h)⟩ (nar_b b95) dX11_clauseHere_80
  · skip
    have b105 : iv 0 0 r29 := iv_eq c48 (iv_lit (lo := 0) (hi := 0) 0 (by decide) (by decide))
    refine lv_aload_n E.1 E.2.1 dX11_clauseHere_49 rfl (lv_at hl 2 rfl) ?_
    refine lv_iconst (v := 0) E.1 E.2.1 dX11_clauseHere_50 (by decide) ?_
    refine lv_iload_n E.1 E.2.1 dX11_clauseHere_51 rfl (lv_at hl 1 rfl) ?_
    refine t_vi E G hl (v_fails l D K ad zz28 oo31 (0 : Int32) v21) 11 (rfl : ro 386 = 11) (by decide) rfl rfl 2 rfl mw_code_X11_fails mw_ini_11 mw_ml_11_114 mw_inst_X11_fails mw_sel_X11_fails hd_X11_fails ⟨Nat.le_trans (by decide) hfr, Nat.le_trans (by decide) hlo⟩ rfl rfl rfl (Nat.le_of_ble_eq_true rfl) dX11_clauseHere_52 (fun r107 zz106 H locs hp108 G => ?_)
    obtain ⟨oo109, kk110, b111⟩ := hp108
    have kk112 : KP4 z zz106 := KPf.tr kk38 (KA9.p4 kk110)
    have h113 : tI zz106 386 11 = v24 := KF.i kk110 11 (rfl : ro 386 = 11) (by decide) h39
    have h114 : tI zz106 386 14 = (tI z 386 14) := KF.i kk110 11 (rfl : ro 386 = 11) (by decide) h40
    have h115 := Scx.tr h41 (Scx.k h41.1 kk110 rfl rfl)
    have sm116 := Same.of kk110 rfl rfl rfl
    have h117 : PIx zz106 := pi_q h43 sm116 h115.1 (kk110.1 386 12 rfl) (kk110.1 386 11 rfl)
    have h118 : SLk z + 0 ≤ SLk zz106 := sl_q 0 h44 sm116 (by rw [kk110.1 386 8 rfl]; omega) (by decide)
    have h119 : WFc zz106 := wf_ka h45 kk110.2.1 rfl rfl rfl rfl
    exact RET G ⟨oo109, kk112, (iv_mono b111 (by decide) (by decide)), h115, h117, (by have h := h118; omega), h119, (fun h => absurd (zero_of b111) h)⟩ (nar_b b111) dX11_clauseHere_55
