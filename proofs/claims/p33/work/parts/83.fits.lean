theorem mw_code_X11_areAllSo : (Cond.code yX11_areAllSo cX11_areAllSo 6 (some .boolean) : Cond) ∈ cw := cw_of (List.mem_append_right _ (List.mem_append_right _ (List.mem_append_right _ (List.mem_append_right _ (List.mem_append_right _ (List.mem_append_right _ (List.mem_append_right _ (List.mem_append_left _ (List.mem_of_getElem? (i := 196) rfl))))))))) (by decide +kernel)
theorem mw_code_X11_begins : (Cond.code yX11_begins cX11_begins 2 none : Cond) ∈ cw := cw_of (List.mem_append_right _ (List.mem_append_right _ (List.mem_append_right _ (List.mem_append_right _ (List.mem_append_right _ (List.mem_append_right _ (List.mem_append_left _ (List.mem_of_getElem? (i := 153) rfl)))))))) (by decide +kernel)
theorem mw_inst_X11_areAllSo : (Cond.instanceMethod yX11_areAllSo : Cond) ∈ cw := cw_of (List.mem_append_right _ (List.mem_append_right _ (List.mem_append_right _ (List.mem_append_right _ (List.mem_append_right _ (List.mem_append_right _ (List.mem_append_right _ (List.mem_append_left _ (List.mem_of_getElem? (i := 195) (by decide +kernel)))))))))) (by decide +kernel)
theorem mw_inst_X11_begins : (Cond.instanceMethod yX11_begins : Cond) ∈ cw := cw_of (List.mem_append_right _ (List.mem_append_right _ (List.mem_append_right _ (List.mem_append_right _ (List.mem_append_right _ (List.mem_append_right _ (List.mem_append_left _ (List.mem_of_getElem? (i := 152) (by decide +kernel))))))))) (by decide +kernel)
theorem mw_ml_11_264 : (Cond.methodLink RX11 264 yX11_begins : Cond) ∈ cw := cw_of (List.mem_append_right _ (List.mem_append_right _ (List.mem_append_right _ (List.mem_append_right _ (List.mem_append_right _ (List.mem_append_right _ (List.mem_append_left _ (List.mem_of_getElem? (i := 150) (by decide +kernel))))))))) (by decide +kernel)
theorem mw_ml_11_434 : (Cond.methodLink RX11 434 yX11_areAllSo : Cond) ∈ cw := cw_of (List.mem_append_right _ (List.mem_append_right _ (List.mem_append_right _ (List.mem_append_right _ (List.mem_append_right _ (List.mem_append_right _ (List.mem_append_right _ (List.mem_append_left _ (List.mem_of_getElem? (i := 193) (by decide +kernel)))))))))) (by decide +kernel)
theorem mw_sel_X11_areAllSo : (Cond.selects RX11 yX11_areAllSo yX11_areAllSo : Cond) ∈ cw := cw_of (List.mem_append_left _ (List.mem_of_getElem? (i := 120) (by decide +kernel))) (by decide +kernel)
theorem mw_sel_X11_begins : (Cond.selects RX11 yX11_begins yX11_begins : Cond) ∈ cw := cw_of (List.mem_append_left _ (List.mem_of_getElem? (i := 79) (by decide +kernel))) (by decide +kernel)
theorem dX11_fillsFits_0 : decode cX11_fillsFits 0 = .ok (.aload_n 0, 1) := by decide +kernel
theorem dX11_fillsFits_1 : decode cX11_fillsFits 1 = .ok (.getfield 42, 3) := by decide +kernel
theorem dX11_fillsFits_4 : decode cX11_fillsFits 4 = .ok (.istore_n 2, 1) := by decide +kernel
theorem dX11_fillsFits_5 : decode cX11_fillsFits 5 = .ok (.aload_n 0, 1) := by decide +kernel
theorem dX11_fillsFits_6 : decode cX11_fillsFits 6 = .ok (.invokevirtual 373, 3) := by decide +kernel
theorem dX11_fillsFits_9 : decode cX11_fillsFits 9 = .ok (.iconst 0, 1) := by decide +kernel
theorem dX11_fillsFits_10 : decode cX11_fillsFits 10 = .ok (.istore_n 3, 1) := by decide +kernel
theorem dX11_fillsFits_11 : decode cX11_fillsFits 11 = .ok (.iload_n 3, 1) := by decide +kernel
theorem dX11_fillsFits_12 : decode cX11_fillsFits 12 = .ok (.aload_n 0, 1) := by decide +kernel
theorem dX11_fillsFits_13 : decode cX11_fillsFits 13 = .ok (.getfield 258, 3) := by decide +kernel
theorem dX11_fillsFits_16 : decode cX11_fillsFits 16 = .ok (.if_icmp .gt 32, 3) := by decide +kernel
theorem dX11_fillsFits_19 : decode cX11_fillsFits 19 = .ok (.aload_n 0, 1) := by decide +kernel
theorem dX11_fillsFits_20 : decode cX11_fillsFits 20 = .ok (.iload_n 3, 1) := by decide +kernel
theorem dX11_fillsFits_21 : decode cX11_fillsFits 21 = .ok (.iconst 1, 1) := by decide +kernel
theorem dX11_fillsFits_22 : decode cX11_fillsFits 22 = .ok (.isub, 1) := by decide +kernel
theorem dX11_fillsFits_23 : decode cX11_fillsFits 23 = .ok (.putfield 42, 3) := by decide +kernel
theorem dX11_fillsFits_26 : decode cX11_fillsFits 26 = .ok (.aload_n 0, 1) := by decide +kernel
theorem dX11_fillsFits_27 : decode cX11_fillsFits 27 = .ok (.invokevirtual 264, 3) := by decide +kernel
theorem dX11_fillsFits_30 : decode cX11_fillsFits 30 = .ok (.aload_n 0, 1) := by decide +kernel
theorem dX11_fillsFits_31 : decode cX11_fillsFits 31 = .ok (.getfield 64, 3) := by decide +kernel
theorem dX11_fillsFits_34 : decode cX11_fillsFits 34 = .ok (.iload_n 3, 1) := by decide +kernel
theorem dX11_fillsFits_35 : decode cX11_fillsFits 35 = .ok (.aload_n 0, 1) := by decide +kernel
theorem dX11_fillsFits_36 : decode cX11_fillsFits 36 = .ok (.iload_n 3, 1) := by decide +kernel
theorem dX11_fillsFits_37 : decode cX11_fillsFits 37 = .ok (.iload_n 1, 1) := by decide +kernel
theorem dX11_fillsFits_38 : decode cX11_fillsFits 38 = .ok (.invokevirtual 434, 3) := by decide +kernel
theorem dX11_fillsFits_41 : decode cX11_fillsFits 41 = .ok (.bastore, 1) := by decide +kernel
theorem dX11_fillsFits_42 : decode cX11_fillsFits 42 = .ok (.iinc 3 1, 3) := by decide +kernel
theorem dX11_fillsFits_45 : decode cX11_fillsFits 45 = .ok (.goto (-34), 3) := by decide +kernel
theorem dX11_fillsFits_48 : decode cX11_fillsFits 48 = .ok (.aload_n 0, 1) := by decide +kernel
theorem dX11_fillsFits_49 : decode cX11_fillsFits 49 = .ok (.iload_n 2, 1) := by decide +kernel
theorem dX11_fillsFits_50 : decode cX11_fillsFits 50 = .ok (.putfield 42, 3) := by decide +kernel
theorem dX11_fillsFits_53 : decode cX11_fillsFits 53 = .ok (.aload_n 0, 1) := by decide +kernel
theorem dX11_fillsFits_54 : decode cX11_fillsFits 54 = .ok (.invokevirtual 382, 3) := by decide +kernel
theorem dX11_fillsFits_57 : decode cX11_fillsFits 57 = .ok (.return_, 1) := by decide +kernel
theorem hd_X11_areAllSo : yX11_areAllSo.cls ≠ "java/lang/invoke/MethodHandle" ∧ yX11_areAllSo.cls ≠ "java/lang/invoke/VarHandle" ∧ (parseMethodDescriptor yX11_areAllSo.desc).map (fun d => d.parameters.length) = some 2 := ⟨by decide +kernel, by decide +kernel, by decide +kernel⟩
theorem hd_X11_begins : yX11_begins.cls ≠ "java/lang/invoke/MethodHandle" ∧ yX11_begins.cls ≠ "java/lang/invoke/VarHandle" ∧ (parseMethodDescriptor yX11_begins.desc).map (fun d => d.parameters.length) = some 0 := ⟨by decide +kernel, by decide +kernel, by decide +kernel⟩
set_option maxHeartbeats 4000000 in
set_option maxRecDepth 100000 in
theorem v_fillsFits (l : Launch) (D : va_G) (K : Nat → ClassId) (ad : Nat → Nat) (z : TS) (o : Ok z) (x1 : Int32) (wf : WFc z) : cV l yX11_fillsFits cX11_fillsFits 4 ({ frames := 8, cells := 0, slots := 0, locals := 193 }) D K ad z [.ref (ad 386), .int x1] (fun u => Ok u ∧ KM z u) := by
  refine t_enterV (by decide) (Nat.le_of_ble_eq_true rfl) rfl rfl ?_
  intro p e s m args below meth c A R Q H locs ls E hfr hlo RET G hl
  have E : mE p s m meth c cX11_fillsFits args 4 RX11 D K A := E
  have hl : lv_has ls 4 [(0, .ref (ad 386)), (1, .int x1)] := hl
  refine lv_aload_n E.1 E.2.1 dX11_fillsFits_0 rfl (lv_at hl 0 rfl) ?_
  refine t_get E G 11 21 (rfl : ro 386 = 11) (C := RX11) (T := TX11) (N := 37) rfl (by decide) (by decide) (by decide) mw_fl_11_42 (fvl_i rfl) dX11_fillsFits_1 ?_
  refine lv_topi (fun v1 e2 => ?_)
  have b3 : iv (-1) 5 v1 := by rw [e2]; exact o.i 11 21 (rfl : ro 386 = 11)
  refine lv_istore_n (lv' := [(2, .int v1), (0, .ref (ad 386)), (1, .int x1)]) E.1 E.2.1 dX11_fillsFits_4 rfl hl (by decide) rfl (fun ls hl => ?_)
  refine lv_aload_n E.1 E.2.1 dX11_fillsFits_5 rfl (lv_at hl 1 rfl) ?_
  refine t_vv E G hl (v_keeps l D K ad z o) 11 (rfl : ro 386 = 11) (by decide) rfl rfl 0 rfl mw_code_X11_keeps mw_ini_11 mw_ml_11_373 mw_inst_X11_keeps mw_sel_X11_keeps hd_X11_keeps ⟨Nat.le_trans (by decide) hfr, Nat.le_trans (by decide) hlo⟩ rfl rfl rfl (Nat.le_of_ble_eq_true rfl) dX11_fillsFits_6 (fun zz4 H locs hp6 G => ?_)
  obtain ⟨oo7, kk8⟩ := hp6
  have kk9 : KM z zz4 := KF.tr KF.rf kk8
  refine lv_iconst (v := 0) E.1 E.2.1 dX11_fillsFits_9 (by decide) ?_
  refine lv_istore_n (lv' := [(3, .int 0), (2, .int v1), (0, .ref (ad 386)), (1, .int x1)]) E.1 E.2.1 dX11_fillsFits_10 rfl hl (by decide) rfl (fun ls hl => ?_)
  have LOOP11 : ∀ n : Nat, ∀ (zz11 : TS) (y10 : Int32) (H : Heap) (locs : List Loc) (ls : Array Slot), mG D A s H locs (wd K ad zz11) → Ok zz11 → KM z zz11 → iv 0 7 y10 → 7 < y10.toInt + (n : Int) → lv_has ls 4 [(3, .int y10), (2, .int v1), (0, .ref (ad 386)), (1, .int x1)] → W p l e R s m args below meth c H locs 0 0 Q (F0 m 11 ls []) := by
    intro n
    induction n with
    | zero =>
      intro zz11 y10 H locs ls G oo12 kk13 b15 m14 hl
      exact absurd m14 (by have := b15.1; have := b15.2; omega)
    | succ n ih11 =>
      intro zz11 y10 H locs ls G oo12 kk13 b15 m14 hl
      refine lv_iload_n E.1 E.2.1 dX11_fillsFits_11 rfl (lv_at hl 0 rfl) ?_
      refine lv_aload_n E.1 E.2.1 dX11_fillsFits_12 rfl (lv_at hl 2 rfl) ?_
      refine t_get E G 11 2 (rfl : ro 386 = 11) (C := RX11) (T := TX11) (N := 37) rfl (by decide) (by decide) (by decide) mw_fl_11_258 (fvl_i rfl) dX11_fillsFits_13 ?_
      refine lv_topi (fun v16 e17 => ?_)
      have b18 : iv 0 6 v16 := by rw [e17]; exact oo12.i 11 2 (rfl : ro 386 = 11)
      refine lv_icmp_gt (tgt := 48) E.1 E.2.1 dX11_fillsFits_16 (by decide) (fun c19 => ?_) (fun c19 => ?_)
      · skip
        have b20 : iv 1 7 y10 := lt_r c19 b18 b15 (by decide)
        refine lv_aload_n E.1 E.2.1 dX11_fillsFits_48 rfl (lv_at hl 2 rfl) ?_
        refine lv_iload_n E.1 E.2.1 dX11_fillsFits_49 rfl (lv_at hl 1 rfl) ?_
        refine t_puti E G 11 21 (rfl : ro 386 = 11) (C := RX11) (T := TX11) (N := 37) rfl (by decide) (by decide) (by decide) rfl rfl mw_fl_11_42 rfl dX11_fillsFits_50 (fun H locs G => ?_)
        obtain ⟨zz21, G, oo22, kk23, h24, h25⟩ : ∃ u : TS, mG D A s H locs (wd K ad u) ∧ Ok u ∧ KM z u ∧ tI u 386 2 = v16 ∧ tI u 386 21 = v1 := ⟨_, G, ok_i oo12 11 (rfl : ro 386 = 11) (iv_mono b3 (by decide) (by decide)) (by decide), KF.tr kk13 (KF_i 11 (rfl : ro 386 = 11) (by decide)), (sI_k e17.symm (by decide)), sI_self⟩
        refine lv_aload_n E.1 E.2.1 dX11_fillsFits_53 rfl (lv_at hl 2 rfl) ?_
        refine t_vv E G hl (v_laysBack l D K ad zz21 oo22) 11 (rfl : ro 386 = 11) (by decide) rfl rfl 0 rfl mw_code_X11_laysBack mw_ini_11 mw_ml_11_382 mw_inst_X11_laysBack mw_sel_X11_laysBack hd_X11_laysBack ⟨Nat.le_trans (by decide) hfr, Nat.le_trans (by decide) hlo⟩ rfl rfl rfl (Nat.le_of_ble_eq_true rfl) dX11_fillsFits_54 (fun zz26 H locs hp28 G => ?_)
        obtain ⟨oo29, kk30⟩ := hp28
        have kk31 : KM z zz26 := KF.tr kk23 kk30
        have h32 : tI zz26 386 2 = v16 := KF.i kk30 11 (rfl : ro 386 = 11) (by decide) h24
        exact RET G ⟨oo29, kk31⟩ dX11_fillsFits_57
      · skip
        have b33 : iv 0 6 y10 := le_l (Int32.not_lt.mp c19) b15 b18 (by decide)
        refine lv_aload_n E.1 E.2.1 dX11_fillsFits_19 rfl (lv_at hl 2 rfl) ?_
        refine lv_iload_n E.1 E.2.1 dX11_fillsFits_20 rfl (lv_at hl 0 rfl) ?_
        refine lv_iconst (v := 1) E.1 E.2.1 dX11_fillsFits_21 (by decide) ?_
        refine lv_isub E.1 E.2.1 dX11_fillsFits_22 ?_
        refine lv_topi (fun v34 e35 => ?_)
        have b36 : iv (-1) 5 v34 := by rw [e35]; exact iv_sub b33 (iv_lit (lo := 1) (hi := 1) 1 (by decide) (by decide)) (by decide) (by decide) (by decide) (by decide)
        have l37 : v34.toInt = (-1) + 1 * y10.toInt := (show v34.toInt = y10.toInt - 1 by rw [e35]; exact ti_subc 1 (by decide) b33 (by decide) (by decide)).trans (by omega)
        refine t_puti E G 11 21 (rfl : ro 386 = 11) (C := RX11) (T := TX11) (N := 37) rfl (by decide) (by decide) (by decide) rfl rfl mw_fl_11_42 rfl dX11_fillsFits_23 (fun H locs G => ?_)
        obtain ⟨zz38, G, oo39, kk40, h41, h42⟩ : ∃ u : TS, mG D A s H locs (wd K ad u) ∧ Ok u ∧ KM z u ∧ tI u 386 2 = v16 ∧ tI u 386 21 = v34 := ⟨_, G, ok_i oo12 11 (rfl : ro 386 = 11) (iv_mono b36 (by decide) (by decide)) (by decide), KF.tr kk13 (KF_i 11 (rfl : ro 386 = 11) (by decide)), (sI_k e17.symm (by decide)), sI_self⟩
        refine lv_aload_n E.1 E.2.1 dX11_fillsFits_26 rfl (lv_at hl 2 rfl) ?_
        refine t_vv E G hl (v_begins l D K ad zz38 oo39) 11 (rfl : ro 386 = 11) (by decide) rfl rfl 0 rfl mw_code_X11_begins mw_ini_11 mw_ml_11_264 mw_inst_X11_begins mw_sel_X11_begins hd_X11_begins ⟨Nat.le_trans (by decide) hfr, Nat.le_trans (by decide) hlo⟩ rfl rfl rfl (Nat.le_of_ble_eq_true rfl) dX11_fillsFits_27 (fun zz43 H locs hp45 G => ?_)
        obtain ⟨oo46, kk47⟩ := hp45
        have kk48 : KM z zz43 := KF.tr kk40 kk47
        have h49 : tI zz43 386 2 = v16 := KF.i kk47 11 (rfl : ro 386 = 11) (by decide) h41
        refine lv_aload_n E.1 E.2.1 dX11_fillsFits_30 rfl (lv_at hl 2 rfl) ?_
        refine t_get E G 11 30 (rfl : ro 386 = 11) (C := RX11) (T := TX11) (N := 37) rfl (by decide) (by decide) (by decide) mw_fl_11_64 (v := .ref (ad 403)) (fvl_o (n := 17) rfl) dX11_fillsFits_31 ?_
        refine lv_iload_n E.1 E.2.1 dX11_fillsFits_34 rfl (lv_at hl 0 rfl) ?_
        refine lv_aload_n E.1 E.2.1 dX11_fillsFits_35 rfl (lv_at hl 2 rfl) ?_
        refine lv_iload_n E.1 E.2.1 dX11_fillsFits_36 rfl (lv_at hl 0 rfl) ?_
        refine lv_iload_n E.1 E.2.1 dX11_fillsFits_37 rfl (lv_at hl 3 rfl) ?_
        refine t_vi E G hl (v_areAllSo l D K ad zz43 oo46 y10 (iv_mono b33 (by decide) (by decide)) x1 (wf_ka wf kk48.2.1 rfl rfl rfl rfl)) 11 (rfl : ro 386 = 11) (by decide) rfl rfl 2 rfl mw_code_X11_areAllSo mw_ini_11 mw_ml_11_434 mw_inst_X11_areAllSo mw_sel_X11_areAllSo hd_X11_areAllSo ⟨Nat.le_trans (by decide) hfr, Nat.le_trans (by decide) hlo⟩ rfl rfl rfl (Nat.le_of_ble_eq_true rfl) dX11_fillsFits_38 (fun r51 zz50 H locs hp52 G => ?_)
        obtain ⟨oo53, kk54, b55⟩ := hp52
        have kk56 : KM z zz50 := KF.tr kk48 kk54
        have h57 : tI zz50 386 2 = v16 := KF.i kk54 11 (rfl : ro 386 = 11) (by decide) h49
        refine t_zast E G 61 (rfl : ro 403 = 61) (by decide) (by decide) rfl (n := 7) rfl (iv_vp b33 (by decide) (by decide)) dX11_fillsFits_41 (fun H locs G => ?_)
        obtain ⟨zz58, G, oo59, kk60, h61⟩ : ∃ u : TS, mG D A s H locs (wd K ad u) ∧ Ok u ∧ KM z u ∧ tI u 386 2 = v16 := ⟨_, G, ok_u oo53 61 (rfl : ro 403 = 61) (wr_u (by decide) (iv_mono (iv_bool b55) (by decide) (by decide))) (by decide), KF.tr kk56 (KF_r 61 (rfl : ro 403 = 61) (by decide)), h57⟩
        obtain ⟨v62, e63⟩ : ∃ w : Int32, w = y10 + (1 : Int32) := ⟨_, rfl⟩
        refine lv_iinc (v := v62) (lv' := [(3, .int v62), (2, .int v1), (0, .ref (ad 386)), (1, .int x1)]) E.1 E.2.1 dX11_fillsFits_42 hl (k := 0) rfl (by rw [e63]; rfl) (by decide) rfl (fun ls hl => ?_)
        have b64 : iv 1 7 v62 := by rw [e63]; exact iv_add b33 (iv_lit (lo := 1) (hi := 1) 1 (by decide) (by decide)) (by decide) (by decide) (by decide) (by decide)
        have t65 : v62.toInt = y10.toInt + 1 := by rw [e63]; exact ti_addc 1 (by decide) b33 (by decide) (by decide)
        refine lv_goto (tgt := 11) E.1 E.2.1 dX11_fillsFits_45 (by decide) ?_
        exact ih11 zz58 v62 H locs ls G oo59 kk60 (iv_mono b64 (by decide) (by decide)) (by have := t65; have := m14; omega) (lv_sub hl [0, 1, 2, 3] rfl)
  exact LOOP11 8 zz4 0 H locs ls G oo7 kk9 (iv_mono (iv_lit (lo := 0) (hi := 0) 0 (by decide) (by decide)) (by decide) (by decide)) (by have := (iv_lit (lo := 0) (hi := 0) 0 (by decide) (by decide)).1; omega) (lv_sub hl [0, 1, 2, 3] rfl)
