theorem mw_code_X11_four : (Cond.code yX11_four cX11_four 3 none : Cond) ∈ cw := cw_of (List.mem_append_right _ (List.mem_append_right _ (List.mem_append_right _ (List.mem_append_right _ (List.mem_append_right _ (List.mem_append_left _ (List.mem_of_getElem? (i := 227) rfl))))))) (by decide +kernel)
theorem mw_fl_11_7 : (Cond.fieldLink RX11 7 "LureTownModel" "tape" "[B" : Cond) ∈ cw := cw_of (List.mem_append_right _ (List.mem_append_right _ (List.mem_append_right _ (List.mem_append_right _ (List.mem_append_right _ (List.mem_append_left _ (List.mem_of_getElem? (i := 107) (by decide +kernel)))))))) (by decide +kernel)
theorem mw_inst_X11_four : (Cond.instanceMethod yX11_four : Cond) ∈ cw := cw_of (List.mem_append_right _ (List.mem_append_right _ (List.mem_append_right _ (List.mem_append_right _ (List.mem_append_right _ (List.mem_append_left _ (List.mem_of_getElem? (i := 226) (by decide +kernel)))))))) (by decide +kernel)
theorem mw_ml_11_86 : (Cond.methodLink RX11 86 yX11_four : Cond) ∈ cw := cw_of (List.mem_append_right _ (List.mem_append_right _ (List.mem_append_right _ (List.mem_append_right _ (List.mem_append_right _ (List.mem_append_left _ (List.mem_of_getElem? (i := 224) (by decide +kernel)))))))) (by decide +kernel)
theorem mw_sel_X11_four : (Cond.selects RX11 yX11_four yX11_four : Cond) ∈ cw := cw_of (List.mem_append_left _ (List.mem_of_getElem? (i := 47) (by decide +kernel))) (by decide +kernel)
theorem dX11_end_0 : decode cX11_end 0 = .ok (.iload_n 1, 1) := by decide +kernel
theorem dX11_end_1 : decode cX11_end 1 = .ok (.ifCond .lt 11, 3) := by decide +kernel
theorem dX11_end_4 : decode cX11_end 4 = .ok (.iload_n 1, 1) := by decide +kernel
theorem dX11_end_5 : decode cX11_end 5 = .ok (.aload_n 0, 1) := by decide +kernel
theorem dX11_end_6 : decode cX11_end 6 = .ok (.getfield 83, 3) := by decide +kernel
theorem dX11_end_9 : decode cX11_end 9 = .ok (.if_icmp .le 5, 3) := by decide +kernel
theorem dX11_end_12 : decode cX11_end 12 = .ok (.iconst (-1), 1) := by decide +kernel
theorem dX11_end_13 : decode cX11_end 13 = .ok (.ireturn, 1) := by decide +kernel
theorem dX11_end_14 : decode cX11_end 14 = .ok (.aload_n 0, 1) := by decide +kernel
theorem dX11_end_15 : decode cX11_end 15 = .ok (.iload_n 1, 1) := by decide +kernel
theorem dX11_end_16 : decode cX11_end 16 = .ok (.putfield 83, 3) := by decide +kernel
theorem dX11_end_19 : decode cX11_end 19 = .ok (.iload_n 1, 1) := by decide +kernel
theorem dX11_end_20 : decode cX11_end 20 = .ok (.ireturn, 1) := by decide +kernel
theorem dX11_feed_0 : decode cX11_feed 0 = .ok (.aload_n 0, 1) := by decide +kernel
theorem dX11_feed_1 : decode cX11_feed 1 = .ok (.getfield 83, 3) := by decide +kernel
theorem dX11_feed_4 : decode cX11_feed 4 = .ok (.bipush 20, 2) := by decide +kernel
theorem dX11_feed_6 : decode cX11_feed 6 = .ok (.iadd, 1) := by decide +kernel
theorem dX11_feed_7 : decode cX11_feed 7 = .ok (.sipush 400, 3) := by decide +kernel
theorem dX11_feed_10 : decode cX11_feed 10 = .ok (.if_icmp .le 5, 3) := by decide +kernel
theorem dX11_feed_13 : decode cX11_feed 13 = .ok (.iconst (-1), 1) := by decide +kernel
theorem dX11_feed_14 : decode cX11_feed 14 = .ok (.ireturn, 1) := by decide +kernel
theorem dX11_feed_15 : decode cX11_feed 15 = .ok (.aload_n 0, 1) := by decide +kernel
theorem dX11_feed_16 : decode cX11_feed 16 = .ok (.iload_n 1, 1) := by decide +kernel
theorem dX11_feed_17 : decode cX11_feed 17 = .ok (.invokevirtual 86, 3) := by decide +kernel
theorem dX11_feed_20 : decode cX11_feed 20 = .ok (.aload_n 0, 1) := by decide +kernel
theorem dX11_feed_21 : decode cX11_feed 21 = .ok (.iload_n 2, 1) := by decide +kernel
theorem dX11_feed_22 : decode cX11_feed 22 = .ok (.invokevirtual 86, 3) := by decide +kernel
theorem dX11_feed_25 : decode cX11_feed 25 = .ok (.aload_n 0, 1) := by decide +kernel
theorem dX11_feed_26 : decode cX11_feed 26 = .ok (.iload_n 3, 1) := by decide +kernel
theorem dX11_feed_27 : decode cX11_feed 27 = .ok (.invokevirtual 86, 3) := by decide +kernel
theorem dX11_feed_30 : decode cX11_feed 30 = .ok (.aload_n 0, 1) := by decide +kernel
theorem dX11_feed_31 : decode cX11_feed 31 = .ok (.iload 4, 2) := by decide +kernel
theorem dX11_feed_33 : decode cX11_feed 33 = .ok (.invokevirtual 86, 3) := by decide +kernel
theorem dX11_feed_36 : decode cX11_feed 36 = .ok (.aload_n 0, 1) := by decide +kernel
theorem dX11_feed_37 : decode cX11_feed 37 = .ok (.iload 5, 2) := by decide +kernel
theorem dX11_feed_39 : decode cX11_feed 39 = .ok (.invokevirtual 86, 3) := by decide +kernel
theorem dX11_feed_42 : decode cX11_feed 42 = .ok (.aload_n 0, 1) := by decide +kernel
theorem dX11_feed_43 : decode cX11_feed 43 = .ok (.getfield 83, 3) := by decide +kernel
theorem dX11_feed_46 : decode cX11_feed 46 = .ok (.ireturn, 1) := by decide +kernel
theorem dX11_four_0 : decode cX11_four 0 = .ok (.bipush 24, 2) := by decide +kernel
theorem dX11_four_2 : decode cX11_four 2 = .ok (.istore_n 2, 1) := by decide +kernel
theorem dX11_four_3 : decode cX11_four 3 = .ok (.iload_n 2, 1) := by decide +kernel
theorem dX11_four_4 : decode cX11_four 4 = .ok (.ifCond .lt 32, 3) := by decide +kernel
theorem dX11_four_7 : decode cX11_four 7 = .ok (.aload_n 0, 1) := by decide +kernel
theorem dX11_four_8 : decode cX11_four 8 = .ok (.getfield 7, 3) := by decide +kernel
theorem dX11_four_11 : decode cX11_four 11 = .ok (.aload_n 0, 1) := by decide +kernel
theorem dX11_four_12 : decode cX11_four 12 = .ok (.getfield 83, 3) := by decide +kernel
theorem dX11_four_15 : decode cX11_four 15 = .ok (.iload_n 1, 1) := by decide +kernel
theorem dX11_four_16 : decode cX11_four 16 = .ok (.iload_n 2, 1) := by decide +kernel
theorem dX11_four_17 : decode cX11_four 17 = .ok (.ishr, 1) := by decide +kernel
theorem dX11_four_18 : decode cX11_four 18 = .ok (.i2b, 1) := by decide +kernel
theorem dX11_four_19 : decode cX11_four 19 = .ok (.bastore, 1) := by decide +kernel
theorem dX11_four_20 : decode cX11_four 20 = .ok (.aload_n 0, 1) := by decide +kernel
theorem dX11_four_21 : decode cX11_four 21 = .ok (.dup, 1) := by decide +kernel
theorem dX11_four_22 : decode cX11_four 22 = .ok (.getfield 83, 3) := by decide +kernel
theorem dX11_four_25 : decode cX11_four 25 = .ok (.iconst 1, 1) := by decide +kernel
theorem dX11_four_26 : decode cX11_four 26 = .ok (.iadd, 1) := by decide +kernel
theorem dX11_four_27 : decode cX11_four 27 = .ok (.putfield 83, 3) := by decide +kernel
theorem dX11_four_30 : decode cX11_four 30 = .ok (.iinc 2 (-8), 3) := by decide +kernel
theorem dX11_four_33 : decode cX11_four 33 = .ok (.goto (-30), 3) := by decide +kernel
theorem dX11_four_36 : decode cX11_four 36 = .ok (.return_, 1) := by decide +kernel
theorem hd_X11_four : yX11_four.cls ≠ "java/lang/invoke/MethodHandle" ∧ yX11_four.cls ≠ "java/lang/invoke/VarHandle" ∧ (parseMethodDescriptor yX11_four.desc).map (fun d => d.parameters.length) = some 1 := ⟨by decide +kernel, by decide +kernel, by decide +kernel⟩
set_option maxHeartbeats 4000000 in
set_option maxRecDepth 100000 in
theorem v_four (l : Launch) (D : va_G) (K : Nat → ClassId) (ad : Nat → Nat) (z : TS) (o : Ok z) (x1 : Int32) (ht : iv 0 396 (tI z 386 1)) : cV l yX11_four cX11_four 3 ({ frames := 0, cells := 0, slots := 0, locals := 0 }) D K ad z [.ref (ad 386), .int x1] (fun u => Ok u ∧ KE z u ∧ ((tI u 386 1).toInt = (tI z 386 1).toInt + 4)) := by
  refine t_enterV (by decide) (Nat.le_of_ble_eq_true rfl) rfl rfl ?_
  intro p e s m args below meth c A R Q H locs ls E hfr hlo RET G hl
  have E : mE p s m meth c cX11_four args 3 RX11 D K A := E
  have hl : lv_has ls 3 [(0, .ref (ad 386)), (1, .int x1)] := hl
  refine lv_bipush (v := 24) E.1 E.2.1 dX11_four_0 (by decide) ?_
  refine lv_istore_n (lv' := [(2, .int 24), (0, .ref (ad 386)), (1, .int x1)]) E.1 E.2.1 dX11_four_2 rfl hl (by decide) rfl (fun ls hl => ?_)
  have LOOP3 : ∀ n : Nat, ∀ (zz2 : TS) (y1 : Int32) (H : Heap) (locs : List Loc) (ls : Array Slot), mG D A s H locs (wd K ad zz2) → Ok zz2 → KE z zz2 → iv (-8) 24 y1 → 8 * (tI zz2 386 1).toInt + y1.toInt = 8 * (tI z 386 1).toInt + 24 → y1.toInt < (-8) + (n : Int) → lv_has ls 3 [(2, .int y1), (0, .ref (ad 386)), (1, .int x1)] → W p l e R s m args below meth c H locs 0 0 Q (F0 m 3 ls []) := by
    intro n
    induction n with
    | zero =>
      intro zz2 y1 H locs ls G oo3 kk4 b6 h7 m5 hl
      exact absurd m5 (by have := b6.1; have := b6.2; omega)
    | succ n ih3 =>
      intro zz2 y1 H locs ls G oo3 kk4 b6 h7 m5 hl
      refine lv_iload_n E.1 E.2.1 dX11_four_3 rfl (lv_at hl 0 rfl) ?_
      refine lv_if_lt (tgt := 36) E.1 E.2.1 dX11_four_4 (by decide) (fun c8 => ?_) (fun c8 => ?_)
      · skip
        have b9 : iv (-8) (-1) y1 := lt_l c8 b6 (iv_lit (lo := 0) (hi := 0) 0 (by decide) (by decide)) (by decide)
        exact RET G ⟨oo3, kk4, (by have := h7; have := b9.1; have := b9.2; omega)⟩ dX11_four_36
      · skip
        have b10 : iv 0 24 y1 := le_r (Int32.not_lt.mp c8) (iv_lit (lo := 0) (hi := 0) 0 (by decide) (by decide)) b6 (by decide)
        refine lv_aload_n E.1 E.2.1 dX11_four_7 rfl (lv_at hl 1 rfl) ?_
        refine t_get E G 11 0 (rfl : ro 386 = 11) (C := RX11) (T := TX11) (N := 37) rfl (by decide) (by decide) (by decide) mw_fl_11_7 (v := .ref (ad 387)) (fvl_o (n := 1) rfl) dX11_four_8 ?_
        refine lv_aload_n E.1 E.2.1 dX11_four_11 rfl (lv_at hl 1 rfl) ?_
        refine t_get E G 11 1 (rfl : ro 386 = 11) (C := RX11) (T := TX11) (N := 37) rfl (by decide) (by decide) (by decide) mw_fl_11_83 (fvl_i rfl) dX11_four_12 ?_
        refine lv_topi (fun v11 e12 => ?_)
        have b13 : iv 0 400 v11 := by rw [e12]; exact oo3.i 11 1 (rfl : ro 386 = 11)
        have b14 : iv 0 399 v11 := ⟨b13.1, by have q := congrArg Int32.toInt (e12.trans rfl); have := h7; have := ht.2; have := b10.1; omega⟩
        refine lv_iload_n E.1 E.2.1 dX11_four_15 rfl (lv_at hl 2 rfl) ?_
        refine lv_iload_n E.1 E.2.1 dX11_four_16 rfl (lv_at hl 0 rfl) ?_
        refine lv_ishr E.1 E.2.1 dX11_four_17 ?_
        refine lv_topi (fun v15 e16 => ?_)
        refine lv_i2b E.1 E.2.1 dX11_four_18 rfl ?_
        refine t_bast E G 45 (rfl : ro 387 = 45) (by decide) (by decide) rfl (n := 400) rfl (iv_vp b14 (by decide) (by decide)) dX11_four_19 (fun H locs G => ?_)
        obtain ⟨zz17, G, oo18, kk19, h20⟩ : ∃ u : TS, mG D A s H locs (wd K ad u) ∧ Ok u ∧ KE z u ∧ tI u 386 1 = v11 := ⟨_, G, ok_u oo3 45 (rfl : ro 387 = 45) (wr_u (by decide) (iv_mono (iv_byte _) (by decide) (by decide))) (by decide), KF.tr kk4 (KF_r 45 (rfl : ro 387 = 45) (by decide)), e12.symm⟩
        refine lv_aload_n E.1 E.2.1 dX11_four_20 rfl (lv_at hl 1 rfl) ?_
        refine lv_dup E.1 E.2.1 dX11_four_21 rfl ?_
        refine t_get E G 11 1 (rfl : ro 386 = 11) (C := RX11) (T := TX11) (N := 37) rfl (by decide) (by decide) (by decide) mw_fl_11_83 (fvl_i rfl) dX11_four_22 ?_
        refine m_ci v11 h20 ?_
        refine lv_iconst (v := 1) E.1 E.2.1 dX11_four_25 (by decide) ?_
        refine lv_iadd E.1 E.2.1 dX11_four_26 ?_
        refine lv_topi (fun v21 e22 => ?_)
        have b23 : iv 1 400 v21 := by rw [e22]; exact iv_add b14 (iv_lit (lo := 1) (hi := 1) 1 (by decide) (by decide)) (by decide) (by decide) (by decide) (by decide)
        have l24 : v21.toInt = 1 + 1 * v11.toInt := (show v21.toInt = v11.toInt + 1 by rw [e22]; exact ti_addc 1 (by decide) b14 (by decide) (by decide)).trans (by omega)
        refine t_puti E G 11 1 (rfl : ro 386 = 11) (C := RX11) (T := TX11) (N := 37) rfl (by decide) (by decide) (by decide) rfl rfl mw_fl_11_83 rfl dX11_four_27 (fun H locs G => ?_)
        obtain ⟨zz25, G, oo26, kk27, h28⟩ : ∃ u : TS, mG D A s H locs (wd K ad u) ∧ Ok u ∧ KE z u ∧ tI u 386 1 = v21 := ⟨_, G, ok_i oo18 11 (rfl : ro 386 = 11) (iv_mono b23 (by decide) (by decide)) (by decide), KF.tr kk19 (KF_i 11 (rfl : ro 386 = 11) (by decide)), sI_self⟩
        obtain ⟨v29, e30⟩ : ∃ w : Int32, w = y1 + (-8 : Int32) := ⟨_, rfl⟩
        refine lv_iinc (v := v29) (lv' := [(2, .int v29), (0, .ref (ad 386)), (1, .int x1)]) E.1 E.2.1 dX11_four_30 hl (k := 0) rfl (by rw [e30]; rfl) (by decide) rfl (fun ls hl => ?_)
        have b31 : iv (-8) 16 v29 := by rw [e30]; exact iv_add b10 (iv_lit (lo := (-8)) (hi := (-8)) (-8) (by decide) (by decide)) (by decide) (by decide) (by decide) (by decide)
        have t32 : v29.toInt = y1.toInt + (-8) := by rw [e30]; exact ti_addc (-8) (by decide) b10 (by decide) (by decide)
        refine lv_goto (tgt := 3) E.1 E.2.1 dX11_four_33 (by decide) ?_
        exact ih3 zz25 v29 H locs ls G oo26 kk27 (iv_mono b31 (by decide) (by decide)) (by have q := congrArg Int32.toInt h28; have q2 := congrArg Int32.toInt (e12.trans rfl); have q3 := h7; have q4 := t32; omega) (by have := t32; have := m5; omega) (lv_sub hl [0, 1, 2] rfl)
  exact LOOP3 33 z 24 H locs ls G o KF.rf (iv_mono (iv_lit (lo := 24) (hi := 24) 24 (by decide) (by decide)) (by decide) (by decide)) (by have e : (24 : Int32).toInt = 24 := (by decide); have q := congrArg Int32.toInt ((rfl : tI z 386 1 = tI z 386 1) : tI z 386 1 = _); omega) (by have := (iv_lit (lo := 24) (hi := 24) 24 (by decide) (by decide)).2; omega) (lv_sub hl [0, 1, 2] rfl)
set_option maxHeartbeats 4000000 in
set_option maxRecDepth 100000 in
theorem v_end (l : Launch) (D : va_G) (K : Nat → ClassId) (ad : Nat → Nat) (z : TS) (o : Ok z) (x1 : Int32) : cI l yX11_end cX11_end 2 .int ({ frames := 0, cells := 0, slots := 0, locals := 0 }) D K ad z [.ref (ad 386), .int x1] (fun r u => Ok u ∧ KE z u) := by
  refine t_enterI (by decide) (Nat.le_of_ble_eq_true rfl) rfl rfl ?_
  intro p e s m args below meth c A R Q H locs ls E hfr hlo RET G hl
  have E : mE p s m meth c cX11_end args 2 RX11 D K A := E
  have hl : lv_has ls 2 [(0, .ref (ad 386)), (1, .int x1)] := hl
  refine lv_iload_n E.1 E.2.1 dX11_end_0 rfl (lv_at hl 1 rfl) ?_
  refine lv_if_lt (tgt := 12) E.1 E.2.1 dX11_end_1 (by decide) (fun c1 => ?_) (fun c1 => ?_)
  · skip
    have b2 : iv (-2147483648) (-1) x1 := lt_l c1 (iv_full x1) (iv_lit (lo := 0) (hi := 0) 0 (by decide) (by decide)) (by decide)
    refine lv_iconst (v := (-1)) E.1 E.2.1 dX11_end_12 (by decide) ?_
    exact RET G ⟨o, KF.rf⟩ rfl dX11_end_13
  · skip
    have b3 : iv 0 2147483647 x1 := le_r (Int32.not_lt.mp c1) (iv_lit (lo := 0) (hi := 0) 0 (by decide) (by decide)) (iv_full x1) (by decide)
    refine lv_iload_n E.1 E.2.1 dX11_end_4 rfl (lv_at hl 1 rfl) ?_
    refine lv_aload_n E.1 E.2.1 dX11_end_5 rfl (lv_at hl 0 rfl) ?_
    refine t_get E G 11 1 (rfl : ro 386 = 11) (C := RX11) (T := TX11) (N := 37) rfl (by decide) (by decide) (by decide) mw_fl_11_83 (fvl_i rfl) dX11_end_6 ?_
    refine lv_topi (fun v4 e5 => ?_)
    have b6 : iv 0 400 v4 := by rw [e5]; exact o.i 11 1 (rfl : ro 386 = 11)
    refine lv_icmp_le (tgt := 14) E.1 E.2.1 dX11_end_9 (by decide) (fun c7 => ?_) (fun c7 => ?_)
    · skip
      have b8 : iv 0 400 x1 := le_l c7 b3 b6 (by decide)
      refine lv_aload_n E.1 E.2.1 dX11_end_14 rfl (lv_at hl 0 rfl) ?_
      refine lv_iload_n E.1 E.2.1 dX11_end_15 rfl (lv_at hl 1 rfl) ?_
      refine t_puti E G 11 1 (rfl : ro 386 = 11) (C := RX11) (T := TX11) (N := 37) rfl (by decide) (by decide) (by decide) rfl rfl mw_fl_11_83 rfl dX11_end_16 (fun H locs G => ?_)
      obtain ⟨zz9, G, oo10, kk11, h12⟩ : ∃ u : TS, mG D A s H locs (wd K ad u) ∧ Ok u ∧ KE z u ∧ tI u 386 1 = x1 := ⟨_, G, ok_i o 11 (rfl : ro 386 = 11) (iv_mono b8 (by decide) (by decide)) (by decide), KF.tr KF.rf (KF_i 11 (rfl : ro 386 = 11) (by decide)), sI_self⟩
      refine lv_iload_n E.1 E.2.1 dX11_end_19 rfl (lv_at hl 1 rfl) ?_
      exact RET G ⟨oo10, kk11⟩ rfl dX11_end_20
    · skip
      have b13 : iv 1 2147483647 x1 := lt_r (Int32.not_le.mp c7) b6 b3 (by decide)
      refine lv_iconst (v := (-1)) E.1 E.2.1 dX11_end_12 (by decide) ?_
      exact RET G ⟨o, KF.rf⟩ rfl dX11_end_13
set_option maxHeartbeats 4000000 in
set_option maxRecDepth 100000 in
theorem v_feed (l : Launch) (D : va_G) (K : Nat → ClassId) (ad : Nat → Nat) (z : TS) (o : Ok z) (x1 : Int32) (x2 : Int32) (x3 : Int32) (x4 : Int32) (x5 : Int32) : cI l yX11_feed cX11_feed 6 .int ({ frames := 1, cells := 0, slots := 0, locals := 22 }) D K ad z [.ref (ad 386), .int x1, .int x2, .int x3, .int x4, .int x5] (fun r u => Ok u ∧ KE z u) := by
  refine t_enterI (by decide) (Nat.le_of_ble_eq_true rfl) rfl rfl ?_
  intro p e s m args below meth c A R Q H locs ls E hfr hlo RET G hl
  have E : mE p s m meth c cX11_feed args 6 RX11 D K A := E
  have hl : lv_has ls 6 [(0, .ref (ad 386)), (1, .int x1), (2, .int x2), (3, .int x3), (4, .int x4), (5, .int x5)] := hl
  refine lv_aload_n E.1 E.2.1 dX11_feed_0 rfl (lv_at hl 0 rfl) ?_
  refine t_get E G 11 1 (rfl : ro 386 = 11) (C := RX11) (T := TX11) (N := 37) rfl (by decide) (by decide) (by decide) mw_fl_11_83 (fvl_i rfl) dX11_feed_1 ?_
  refine lv_topi (fun v1 e2 => ?_)
  have b3 : iv 0 400 v1 := by rw [e2]; exact o.i 11 1 (rfl : ro 386 = 11)
  refine lv_bipush (v := 20) E.1 E.2.1 dX11_feed_4 (by decide) ?_
  refine lv_iadd E.1 E.2.1 dX11_feed_6 ?_
  refine lv_topi (fun v4 e5 => ?_)
  have b6 : iv 20 420 v4 := by rw [e5]; exact iv_add b3 (iv_lit (lo := 20) (hi := 20) 20 (by decide) (by decide)) (by decide) (by decide) (by decide) (by decide)
  have l7 : v4.toInt = 20 + 1 * v1.toInt := (show v4.toInt = v1.toInt + 20 by rw [e5]; exact ti_addc 20 (by decide) b3 (by decide) (by decide)).trans (by omega)
  refine lv_sipush (v := 400) E.1 E.2.1 dX11_feed_7 (by decide) ?_
  refine lv_icmp_le (tgt := 15) E.1 E.2.1 dX11_feed_10 (by decide) (fun c8 => ?_) (fun c8 => ?_)
  · skip
    have b9 : iv 20 400 v4 := le_l c8 b6 (iv_lit (lo := 400) (hi := 400) 400 (by decide) (by decide)) (by decide)
    have b10 : iv 0 380 v1 := ⟨b3.1, by have := l7; have := b9.2; omega⟩
    have h11 : iv 0 380 (tI z 386 1) := by rw [e2.symm]; exact b10
    refine lv_aload_n E.1 E.2.1 dX11_feed_15 rfl (lv_at hl 0 rfl) ?_
    refine lv_iload_n E.1 E.2.1 dX11_feed_16 rfl (lv_at hl 1 rfl) ?_
    refine t_vv E G hl (v_four l D K ad z o x1 (by rw [e2.symm]; exact iv_mono b10 (by decide) (by decide))) 11 (rfl : ro 386 = 11) (by decide) rfl rfl 1 rfl mw_code_X11_four mw_ini_11 mw_ml_11_86 mw_inst_X11_four mw_sel_X11_four hd_X11_four ⟨Nat.le_trans (by decide) hfr, Nat.le_trans (by decide) hlo⟩ rfl rfl rfl (Nat.le_of_ble_eq_true rfl) dX11_feed_17 (fun zz12 H locs hp14 G => ?_)
    obtain ⟨oo15, kk16, h17⟩ := hp14
    have kk18 : KE z zz12 := KF.tr KF.rf kk16
    have h19 : iv 4 384 (tI zz12 386 1) := iv_sh 4 h17 h11 (by decide) (by decide)
    refine lv_aload_n E.1 E.2.1 dX11_feed_20 rfl (lv_at hl 0 rfl) ?_
    refine lv_iload_n E.1 E.2.1 dX11_feed_21 rfl (lv_at hl 2 rfl) ?_
    refine t_vv E G hl (v_four l D K ad zz12 oo15 x2 (iv_mono h19 (by decide) (by decide))) 11 (rfl : ro 386 = 11) (by decide) rfl rfl 1 rfl mw_code_X11_four mw_ini_11 mw_ml_11_86 mw_inst_X11_four mw_sel_X11_four hd_X11_four ⟨Nat.le_trans (by decide) hfr, Nat.le_trans (by decide) hlo⟩ rfl rfl rfl (Nat.le_of_ble_eq_true rfl) dX11_feed_22 (fun zz20 H locs hp22 G => ?_)
    obtain ⟨oo23, kk24, h25⟩ := hp22
    have kk26 : KE z zz20 := KF.tr kk18 kk24
    have h27 : iv 8 388 (tI zz20 386 1) := iv_sh 4 h25 h19 (by decide) (by decide)
    refine lv_aload_n E.1 E.2.1 dX11_feed_25 rfl (lv_at hl 0 rfl) ?_
    refine lv_iload_n E.1 E.2.1 dX11_feed_26 rfl (lv_at hl 3 rfl) ?_
    refine t_vv E G hl (v_four l D K ad zz20 oo23 x3 (iv_mono h27 (by decide) (by decide))) 11 (rfl : ro 386 = 11) (by decide) rfl rfl 1 rfl mw_code_X11_four mw_ini_11 mw_ml_11_86 mw_inst_X11_four mw_sel_X11_four hd_X11_four ⟨Nat.le_trans (by decide) hfr, Nat.le_trans (by decide) hlo⟩ rfl rfl rfl (Nat.le_of_ble_eq_true rfl) dX11_feed_27 (fun zz28 H locs hp30 G => ?_)
    obtain ⟨oo31, kk32, h33⟩ := hp30
    have kk34 : KE z zz28 := KF.tr kk26 kk32
    have h35 : iv 12 392 (tI zz28 386 1) := iv_sh 4 h33 h27 (by decide) (by decide)
    refine lv_aload_n E.1 E.2.1 dX11_feed_30 rfl (lv_at hl 0 rfl) ?_
    refine lv_iload E.1 E.2.1 dX11_feed_31 (lv_at hl 4 rfl) ?_
    refine t_vv E G hl (v_four l D K ad zz28 oo31 x4 (iv_mono h35 (by decide) (by decide))) 11 (rfl : ro 386 = 11) (by decide) rfl rfl 1 rfl mw_code_X11_four mw_ini_11 mw_ml_11_86 mw_inst_X11_four mw_sel_X11_four hd_X11_four ⟨Nat.le_trans (by decide) hfr, Nat.le_trans (by decide) hlo⟩ rfl rfl rfl (Nat.le_of_ble_eq_true rfl) dX11_feed_33 (fun zz36 H locs hp38 G => ?_)
    obtain ⟨oo39, kk40, h41⟩ := hp38
    have kk42 : KE z zz36 := KF.tr kk34 kk40
    have h43 : iv 16 396 (tI zz36 386 1) := iv_sh 4 h41 h35 (by decide) (by decide)
    refine lv_aload_n E.1 E.2.1 dX11_feed_36 rfl (lv_at hl 0 rfl) ?_
    refine lv_iload E.1 E.2.1 dX11_feed_37 (lv_at hl 5 rfl) ?_
    refine t_vv E G hl (v_four l D K ad zz36 oo39 x5 (iv_mono h43 (by decide) (by decide))) 11 (rfl : ro 386 = 11) (by decide) rfl rfl 1 rfl mw_code_X11_four mw_ini_11 mw_ml_11_86 mw_inst_X11_four mw_sel_X11_four hd_X11_four ⟨Nat.le_trans (by decide) hfr, Nat.le_trans (by decide) hlo⟩ rfl rfl rfl (Nat.le_of_ble_eq_true rfl) dX11_feed_39 (fun zz44 H locs hp46 G => ?_)
    obtain ⟨oo47, kk48, h49⟩ := hp46
    have kk50 : KE z zz44 := KF.tr kk42 kk48
    have h51 : iv 20 400 (tI zz44 386 1) := iv_sh 4 h49 h43 (by decide) (by decide)
    refine lv_aload_n E.1 E.2.1 dX11_feed_42 rfl (lv_at hl 0 rfl) ?_
    refine t_get E G 11 1 (rfl : ro 386 = 11) (C := RX11) (T := TX11) (N := 37) rfl (by decide) (by decide) (by decide) mw_fl_11_83 (fvl_i rfl) dX11_feed_43 ?_
    refine lv_topi (fun v52 e53 => ?_)
    have b54 : iv 0 400 v52 := by rw [e53]; exact oo47.i 11 1 (rfl : ro 386 = 11)
    exact RET G ⟨oo47, kk50⟩ rfl dX11_feed_46
  · skip
    have b55 : iv 401 420 v4 := lt_r (Int32.not_le.mp c8) (iv_lit (lo := 400) (hi := 400) 400 (by decide) (by decide)) b6 (by decide)
    refine lv_iconst (v := (-1)) E.1 E.2.1 dX11_feed_13 (by decide) ?_
    exact RET G ⟨o, KF.rf⟩ rfl dX11_feed_14
