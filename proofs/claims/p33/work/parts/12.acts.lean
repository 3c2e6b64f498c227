theorem mw_code_X6_copyFrom : (Cond.code yX6_copyFrom cX6_copyFrom 2 none : Cond) ∈ cw := cw_of (List.mem_append_right _ (List.mem_append_right _ (List.mem_append_right _ (List.mem_append_left _ (List.mem_of_getElem? (i := 170) rfl))))) (by decide +kernel)
theorem mw_code_min : (Cond.code Lib.Math.min.name Lib.Math.min.code 2 (some .int) : Cond) ∈ cw := cw_of (List.mem_append_right _ (List.mem_append_right _ (List.mem_append_right _ (List.mem_append_left _ (List.mem_of_getElem? (i := 70) rfl))))) (by decide +kernel)
theorem mw_fl_0_15 : (Cond.fieldLink RX0 15 "LureTown$Acts" "next" "I" : Cond) ∈ cw := cw_of (List.mem_append_right _ (List.mem_append_right _ (List.mem_append_left _ (List.mem_of_getElem? (i := 84) (by decide +kernel))))) (by decide +kernel)
theorem mw_fl_0_20 : (Cond.fieldLink RX0 20 "LureTown$Acts" "before" "[LLureTown$State;" : Cond) ∈ cw := cw_of (List.mem_append_right _ (List.mem_append_right _ (List.mem_append_left _ (List.mem_of_getElem? (i := 85) (by decide +kernel))))) (by decide +kernel)
theorem mw_fl_0_9 : (Cond.fieldLink RX0 9 "LureTown$Acts" "size" "I" : Cond) ∈ cw := cw_of (List.mem_append_right _ (List.mem_append_right _ (List.mem_append_left _ (List.mem_of_getElem? (i := 82) (by decide +kernel))))) (by decide +kernel)
theorem mw_ini_6 : (Cond.initialized RX6 : Cond) ∈ cw := cw_of (List.mem_append_right _ (List.mem_append_left _ (List.mem_of_getElem? (i := 5) (by decide +kernel)))) (by decide +kernel)
theorem mw_inst_X6_copyFrom : (Cond.instanceMethod yX6_copyFrom : Cond) ∈ cw := cw_of (List.mem_append_right _ (List.mem_append_right _ (List.mem_append_right _ (List.mem_append_left _ (List.mem_of_getElem? (i := 168) (by decide +kernel)))))) (by decide +kernel)
theorem mw_ml_0_25 : (Cond.methodLink RX0 25 yX6_copyFrom : Cond) ∈ cw := cw_of (List.mem_append_right _ (List.mem_append_right _ (List.mem_append_right _ (List.mem_append_right _ (List.mem_append_left _ (List.mem_of_getElem? (i := 63) (by decide +kernel))))))) (by decide +kernel)
theorem mw_ml_0_29 : (Cond.methodLink RX0 29 Lib.Math.min.name : Cond) ∈ cw := cw_of (List.mem_append_right _ (List.mem_append_right _ (List.mem_append_right _ (List.mem_append_right _ (List.mem_append_left _ (List.mem_of_getElem? (i := 64) (by decide +kernel))))))) (by decide +kernel)
theorem mw_sel_X6_copyFrom : (Cond.selects RX6 yX6_copyFrom yX6_copyFrom : Cond) ∈ cw := cw_of (List.mem_append_right _ (List.mem_append_right _ (List.mem_append_right _ (List.mem_append_left _ (List.mem_of_getElem? (i := 169) (by decide +kernel)))))) (by decide +kernel)
theorem mw_stat_min : (Cond.static Lib.Math.min.name : Cond) ∈ cw := cw_of (List.mem_append_right _ (List.mem_append_right _ (List.mem_append_right _ (List.mem_append_left _ (List.mem_of_getElem? (i := 69) (by decide +kernel)))))) (by decide +kernel)
theorem dX0_forget_0 : decode cX0_forget 0 = .ok (.aload_n 0, 1) := by decide +kernel
theorem dX0_forget_1 : decode cX0_forget 1 = .ok (.iconst 0, 1) := by decide +kernel
theorem dX0_forget_2 : decode cX0_forget 2 = .ok (.putfield 9, 3) := by decide +kernel
theorem dX0_forget_5 : decode cX0_forget 5 = .ok (.return_, 1) := by decide +kernel
theorem dX0_keep_0 : decode cX0_keep 0 = .ok (.aload_n 0, 1) := by decide +kernel
theorem dX0_keep_1 : decode cX0_keep 1 = .ok (.getfield 20, 3) := by decide +kernel
theorem dX0_keep_4 : decode cX0_keep 4 = .ok (.aload_n 0, 1) := by decide +kernel
theorem dX0_keep_5 : decode cX0_keep 5 = .ok (.getfield 15, 3) := by decide +kernel
theorem dX0_keep_8 : decode cX0_keep 8 = .ok (.aaload, 1) := by decide +kernel
theorem dX0_keep_9 : decode cX0_keep 9 = .ok (.aload_n 1, 1) := by decide +kernel
theorem dX0_keep_10 : decode cX0_keep 10 = .ok (.invokevirtual 25, 3) := by decide +kernel
theorem dX0_keep_13 : decode cX0_keep 13 = .ok (.aload_n 0, 1) := by decide +kernel
theorem dX0_keep_14 : decode cX0_keep 14 = .ok (.aload_n 0, 1) := by decide +kernel
theorem dX0_keep_15 : decode cX0_keep 15 = .ok (.getfield 15, 3) := by decide +kernel
theorem dX0_keep_18 : decode cX0_keep 18 = .ok (.iconst 1, 1) := by decide +kernel
theorem dX0_keep_19 : decode cX0_keep 19 = .ok (.iadd, 1) := by decide +kernel
theorem dX0_keep_20 : decode cX0_keep 20 = .ok (.bipush 20, 2) := by decide +kernel
theorem dX0_keep_22 : decode cX0_keep 22 = .ok (.irem, 1) := by decide +kernel
theorem dX0_keep_23 : decode cX0_keep 23 = .ok (.putfield 15, 3) := by decide +kernel
theorem dX0_keep_26 : decode cX0_keep 26 = .ok (.aload_n 0, 1) := by decide +kernel
theorem dX0_keep_27 : decode cX0_keep 27 = .ok (.bipush 20, 2) := by decide +kernel
theorem dX0_keep_29 : decode cX0_keep 29 = .ok (.aload_n 0, 1) := by decide +kernel
theorem dX0_keep_30 : decode cX0_keep 30 = .ok (.getfield 9, 3) := by decide +kernel
theorem dX0_keep_33 : decode cX0_keep 33 = .ok (.iconst 1, 1) := by decide +kernel
theorem dX0_keep_34 : decode cX0_keep 34 = .ok (.iadd, 1) := by decide +kernel
theorem dX0_keep_35 : decode cX0_keep 35 = .ok (.invokestatic 29, 3) := by decide +kernel
theorem dX0_keep_38 : decode cX0_keep 38 = .ok (.putfield 9, 3) := by decide +kernel
theorem dX0_keep_41 : decode cX0_keep 41 = .ok (.return_, 1) := by decide +kernel
theorem dX0_takeBack_0 : decode cX0_takeBack 0 = .ok (.aload_n 0, 1) := by decide +kernel
theorem dX0_takeBack_1 : decode cX0_takeBack 1 = .ok (.aload_n 0, 1) := by decide +kernel
theorem dX0_takeBack_2 : decode cX0_takeBack 2 = .ok (.getfield 15, 3) := by decide +kernel
theorem dX0_takeBack_5 : decode cX0_takeBack 5 = .ok (.bipush 20, 2) := by decide +kernel
theorem dX0_takeBack_7 : decode cX0_takeBack 7 = .ok (.iadd, 1) := by decide +kernel
theorem dX0_takeBack_8 : decode cX0_takeBack 8 = .ok (.iconst 1, 1) := by decide +kernel
theorem dX0_takeBack_9 : decode cX0_takeBack 9 = .ok (.isub, 1) := by decide +kernel
theorem dX0_takeBack_10 : decode cX0_takeBack 10 = .ok (.bipush 20, 2) := by decide +kernel
theorem dX0_takeBack_12 : decode cX0_takeBack 12 = .ok (.irem, 1) := by decide +kernel
theorem dX0_takeBack_13 : decode cX0_takeBack 13 = .ok (.putfield 15, 3) := by decide +kernel
theorem dX0_takeBack_16 : decode cX0_takeBack 16 = .ok (.aload_n 0, 1) := by decide +kernel
theorem dX0_takeBack_17 : decode cX0_takeBack 17 = .ok (.dup, 1) := by decide +kernel
theorem dX0_takeBack_18 : decode cX0_takeBack 18 = .ok (.getfield 9, 3) := by decide +kernel
theorem dX0_takeBack_21 : decode cX0_takeBack 21 = .ok (.iconst 1, 1) := by decide +kernel
theorem dX0_takeBack_22 : decode cX0_takeBack 22 = .ok (.isub, 1) := by decide +kernel
theorem dX0_takeBack_23 : decode cX0_takeBack 23 = .ok (.putfield 9, 3) := by decide +kernel
theorem dX0_takeBack_26 : decode cX0_takeBack 26 = .ok (.aload_n 1, 1) := by decide +kernel
theorem dX0_takeBack_27 : decode cX0_takeBack 27 = .ok (.aload_n 0, 1) := by decide +kernel
theorem dX0_takeBack_28 : decode cX0_takeBack 28 = .ok (.getfield 20, 3) := by decide +kernel
theorem dX0_takeBack_31 : decode cX0_takeBack 31 = .ok (.aload_n 0, 1) := by decide +kernel
theorem dX0_takeBack_32 : decode cX0_takeBack 32 = .ok (.getfield 15, 3) := by decide +kernel
theorem dX0_takeBack_35 : decode cX0_takeBack 35 = .ok (.aaload, 1) := by decide +kernel
theorem dX0_takeBack_36 : decode cX0_takeBack 36 = .ok (.invokevirtual 25, 3) := by decide +kernel
theorem dX0_takeBack_39 : decode cX0_takeBack 39 = .ok (.return_, 1) := by decide +kernel
theorem hd_X6_copyFrom : yX6_copyFrom.cls ≠ "java/lang/invoke/MethodHandle" ∧ yX6_copyFrom.cls ≠ "java/lang/invoke/VarHandle" ∧ (parseMethodDescriptor yX6_copyFrom.desc).map (fun d => d.parameters.length) = some 1 := ⟨by decide +kernel, by decide +kernel, by decide +kernel⟩
set_option maxHeartbeats 4000000 in
set_option maxRecDepth 100000 in
theorem a_forget (l : Launch) (D : va_G) (K : Nat → ClassId) (ad : Nat → Nat) (z : TS) (o : Ok z) : cV l yX0_forget cX0_forget 1 ({ frames := 0, cells := 0, slots := 0, locals := 0 }) D K ad z [.ref (ad 182)] (fun u => Ok u ∧ KC z u) := by
  refine t_enterV (by decide) (Nat.le_of_ble_eq_true rfl) rfl rfl ?_
  intro p e s m args below meth c A R Q H locs ls E hfr hlo RET G hl
  have E : mE p s m meth c cX0_forget args 1 RX0 D K A := E
  have hl : lv_has ls 1 [(0, .ref (ad 182))] := hl
  refine lv_aload_n E.1 E.2.1 dX0_forget_0 rfl (lv_at hl 0 rfl) ?_
  refine lv_iconst (v := 0) E.1 E.2.1 dX0_forget_1 (by decide) ?_
  refine t_puti E G 0 0 (rfl : ro 182 = 0) (C := RX0) (T := TX0) (N := 3) rfl (by decide) (by decide) (by decide) rfl rfl mw_fl_0_9 rfl dX0_forget_2 (fun H locs G => ?_)
  obtain ⟨zz1, G, oo2, kk3, h4⟩ : ∃ u : TS, mG D A s H locs (wd K ad u) ∧ Ok u ∧ KC z u ∧ tI u 182 0 = 0 := ⟨_, G, ok_i o 0 (rfl : ro 182 = 0) (iv_mono (iv_lit (lo := 0) (hi := 0) 0 (by decide) (by decide)) (by decide) (by decide)) (by decide), KC.tr KC.rf (KC_i 0 (rfl : ro 182 = 0) (by decide)), sI_self⟩
  exact RET G ⟨oo2, kk3⟩ dX0_forget_5
set_option maxHeartbeats 4000000 in
set_option maxRecDepth 100000 in
theorem a_keep (l : Launch) (D : va_G) (K : Nat → ClassId) (ad : Nat → Nat) (z : TS) (o : Ok z) (p0 : Nat) (ap0 : at_ 6 p0 = true) : cV l yX0_keep cX0_keep 2 ({ frames := 2, cells := 0, slots := 0, locals := 47 }) D K ad z [.ref (ad 182), .ref (ad p0)] (fun u => Ok u ∧ KC z u) := by
  refine t_enterV (by decide) (Nat.le_of_ble_eq_true rfl) rfl rfl ?_
  intro p e s m args below meth c A R Q H locs ls E hfr hlo RET G hl
  have E : mE p s m meth c cX0_keep args 2 RX0 D K A := E
  have hl : lv_has ls 2 [(0, .ref (ad 182)), (1, .ref (ad p0))] := hl
  refine lv_aload_n E.1 E.2.1 dX0_keep_0 rfl (lv_at hl 0 rfl) ?_
  refine t_get E G 0 2 (rfl : ro 182 = 0) (C := RX0) (T := TX0) (N := 3) rfl (by decide) (by decide) (by decide) mw_fl_0_20 (v := .ref (ad 183)) (fvl_o (n := 1) rfl) dX0_keep_1 ?_
  refine lv_aload_n E.1 E.2.1 dX0_keep_4 rfl (lv_at hl 0 rfl) ?_
  refine t_get E G 0 1 (rfl : ro 182 = 0) (C := RX0) (T := TX0) (N := 3) rfl (by decide) (by decide) (by decide) mw_fl_0_15 (fvl_i rfl) dX0_keep_5 ?_
  refine lv_topi (fun v1 e2 => ?_)
  have b3 : iv 0 19 v1 := by rw [e2]; exact o.i 0 1 (rfl : ro 182 = 0)
  refine t_aald E G 36 (rfl : ro 183 = 36) (by decide) (by decide) (t0 := 6) rfl (by decide) (n := 20) rfl rfl (iv_vp b3 (by decide) (by decide)) dX0_keep_8 ?_
  obtain ⟨qq4, eqq4⟩ : ∃ q : Nat, q = 183 + 1 + qst 36 * (v1 : Int32).toNatClampNeg := ⟨_, rfl⟩
  have aqq4 : at_ 6 qq4 = true := by rw [eqq4]; exact before_at _ (clamp_lt b3 (by decide) (by decide))
  rw [← eqq4]
  refine lv_aload_n E.1 E.2.1 dX0_keep_9 rfl (lv_at hl 1 rfl) ?_
  refine t_vv E G hl (s_copy l D K ad z o qq4 aqq4 p0 ap0) 6 (at_ro (i := 0) aqq4 (by decide) : ro qq4 = 6) (by decide) rfl rfl 1 rfl mw_code_X6_copyFrom mw_ini_6 mw_ml_0_25 mw_inst_X6_copyFrom mw_sel_X6_copyFrom hd_X6_copyFrom ⟨Nat.le_trans (by decide) hfr, Nat.le_trans (by decide) hlo⟩ rfl rfl rfl (Nat.le_of_ble_eq_true rfl) dX0_keep_10 (fun zz5 H locs hp7 G => ?_)
  obtain ⟨oo8, kk9⟩ := hp7
  have kk10 : KC z zz5 := KC.tr KC.rf kk9
  refine lv_aload_n E.1 E.2.1 dX0_keep_13 rfl (lv_at hl 0 rfl) ?_
  refine lv_aload_n E.1 E.2.1 dX0_keep_14 rfl (lv_at hl 0 rfl) ?_
  refine t_get E G 0 1 (rfl : ro 182 = 0) (C := RX0) (T := TX0) (N := 3) rfl (by decide) (by decide) (by decide) mw_fl_0_15 (fvl_i rfl) dX0_keep_15 ?_
  refine lv_topi (fun v11 e12 => ?_)
  have b13 : iv 0 19 v11 := by rw [e12]; exact oo8.i 0 1 (rfl : ro 182 = 0)
  refine lv_iconst (v := 1) E.1 E.2.1 dX0_keep_18 (by decide) ?_
  refine lv_iadd E.1 E.2.1 dX0_keep_19 ?_
  refine lv_topi (fun v14 e15 => ?_)
  have b16 : iv 1 20 v14 := by rw [e15]; exact iv_add b13 (iv_lit (lo := 1) (hi := 1) 1 (by decide) (by decide)) (by decide) (by decide) (by decide) (by decide)
  refine lv_bipush (v := 20) E.1 E.2.1 dX0_keep_20 (by decide) ?_
  refine lv_irem E.1 E.2.1 dX0_keep_22 (by decide) ?_
  refine lv_topi (fun v17 e18 => ?_)
  have b19 : iv 0 19 v17 := by rw [e18]; exact iv_rem b16 20 (by decide) (by decide) (by decide)
  refine t_puti E G 0 1 (rfl : ro 182 = 0) (C := RX0) (T := TX0) (N := 3) rfl (by decide) (by decide) (by decide) rfl rfl mw_fl_0_15 rfl dX0_keep_23 (fun H locs G => ?_)
  obtain ⟨zz20, G, oo21, kk22, h23⟩ : ∃ u : TS, mG D A s H locs (wd K ad u) ∧ Ok u ∧ KC z u ∧ tI u 182 1 = v17 := ⟨_, G, ok_i oo8 0 (rfl : ro 182 = 0) (iv_mono b19 (by decide) (by decide)) (by decide), KC.tr kk10 (KC_i 0 (rfl : ro 182 = 0) (by decide)), sI_self⟩
  refine lv_aload_n E.1 E.2.1 dX0_keep_26 rfl (lv_at hl 0 rfl) ?_
  refine lv_bipush (v := 20) E.1 E.2.1 dX0_keep_27 (by decide) ?_
  refine lv_aload_n E.1 E.2.1 dX0_keep_29 rfl (lv_at hl 0 rfl) ?_
  refine t_get E G 0 0 (rfl : ro 182 = 0) (C := RX0) (T := TX0) (N := 3) rfl (by decide) (by decide) (by decide) mw_fl_0_9 (fvl_i rfl) dX0_keep_30 ?_
  refine lv_topi (fun v24 e25 => ?_)
  refine lv_iconst (v := 1) E.1 E.2.1 dX0_keep_33 (by decide) ?_
  refine lv_iadd E.1 E.2.1 dX0_keep_34 ?_
  refine lv_topi (fun v26 e27 => ?_)
  refine va_mmin E.1 E.2.1 (E.2.2.1.trans hl.1.symm) E.2.2.2.1 (E.2.2.2.2.1 _ mw_ml_0_29) (E.2.2.2.2.1 _ mw_stat_min) (E.2.2.2.2.1 _ mw_ini_Math) (E.2.2.2.2.1 _ mw_code_min) (Nat.le_trans (by decide) hfr) (Nat.le_trans (Nat.le_of_ble_eq_true rfl) hlo) (Nat.zero_le _) (Nat.zero_le _) dX0_keep_35 ?_
  refine lv_topi (fun v28 e29 => ?_)
  have b30 : iv (-2147483648) 20 v28 := by rw [e29]; exact iv_min (iv_lit (lo := 20) (hi := 20) 20 (by decide) (by decide)) (iv_full v26) (by decide) (by decide)
  refine t_puti E G 0 0 (rfl : ro 182 = 0) (C := RX0) (T := TX0) (N := 3) rfl (by decide) (by decide) (by decide) rfl rfl mw_fl_0_9 rfl dX0_keep_38 (fun H locs G => ?_)
  obtain ⟨zz31, G, oo32, kk33, h34, h35⟩ : ∃ u : TS, mG D A s H locs (wd K ad u) ∧ Ok u ∧ KC z u ∧ tI u 182 1 = v17 ∧ tI u 182 0 = v28 := ⟨_, G, ok_i oo21 0 (rfl : ro 182 = 0) (iv_mono b30 (by decide) (by decide)) (by decide), KC.tr kk22 (KC_i 0 (rfl : ro 182 = 0) (by decide)), (sI_k h23 (by decide)), sI_self⟩
  exact RET G ⟨oo32, kk33⟩ dX0_keep_41
set_option maxHeartbeats 4000000 in
set_option maxRecDepth 100000 in
theorem a_back (l : Launch) (D : va_G) (K : Nat → ClassId) (ad : Nat → Nat) (z : TS) (o : Ok z) (p0 : Nat) (ap0 : at_ 6 p0 = true) : cV l yX0_takeBack cX0_takeBack 2 ({ frames := 2, cells := 0, slots := 0, locals := 47 }) D K ad z [.ref (ad 182), .ref (ad p0)] (fun u => Ok u ∧ KC z u) := by
  refine t_enterV (by decide) (Nat.le_of_ble_eq_true rfl) rfl rfl ?_
  intro p e s m args below meth c A R Q H locs ls E hfr hlo RET G hl
  have E : mE p s m meth c cX0_takeBack args 2 RX0 D K A := E
  have hl : lv_has ls 2 [(0, .ref (ad 182)), (1, .ref (ad p0))] := hl
  refine lv_aload_n E.1 E.2.1 dX0_takeBack_0 rfl (lv_at hl 0 rfl) ?_
  refine lv_aload_n E.1 E.2.1 dX0_takeBack_1 rfl (lv_at hl 0 rfl) ?_
  refine t_get E G 0 1 (rfl : ro 182 = 0) (C := RX0) (T := TX0) (N := 3) rfl (by decide) (by decide) (by decide) mw_fl_0_15 (fvl_i rfl) dX0_takeBack_2 ?_
  refine lv_topi (fun v1 e2 => ?_)
  have b3 : iv 0 19 v1 := by rw [e2]; exact o.i 0 1 (rfl : ro 182 = 0)
  refine lv_bipush (v := 20) E.1 E.2.1 dX0_takeBack_5 (by decide) ?_
  refine lv_iadd E.1 E.2.1 dX0_takeBack_7 ?_
  refine lv_topi (fun v4 e5 => ?_)
  have b6 : iv 20 39 v4 := by rw [e5]; exact iv_add b3 (iv_lit (lo := 20) (hi := 20) 20 (by decide) (by decide)) (by decide) (by decide) (by decide) (by decide)
  refine lv_iconst (v := 1) E.1 E.2.1 dX0_takeBack_8 (by decide) ?_
  refine lv_isub E.1 E.2.1 dX0_takeBack_9 ?_
  refine lv_topi (fun v7 e8 => ?_)
  have b9 : iv 19 38 v7 := by rw [e8]; exact iv_sub b6 (iv_lit (lo := 1) (hi := 1) 1 (by decide) (by decide)) (by decide) (by decide) (by decide) (by decide)
  refine lv_bipush (v := 20) E.1 E.2.1 dX0_takeBack_10 (by decide) ?_
  refine lv_irem E.1 E.2.1 dX0_takeBack_12 (by decide) ?_
  refine lv_topi (fun v10 e11 => ?_)
  have b12 : iv 0 19 v10 := by rw [e11]; exact iv_rem b9 20 (by decide) (by decide) (by decide)
  refine t_puti E G 0 1 (rfl : ro 182 = 0) (C := RX0) (T := TX0) (N := 3) rfl (by decide) (by decide) (by decide) rfl rfl mw_fl_0_15 rfl dX0_takeBack_13 (fun H locs G => ?_)
  obtain ⟨zz13, G, oo14, kk15, h16⟩ : ∃ u : TS, mG D A s H locs (wd K ad u) ∧ Ok u ∧ KC z u ∧ tI u 182 1 = v10 := ⟨_, G, ok_i o 0 (rfl : ro 182 = 0) (iv_mono b12 (by decide) (by decide)) (by decide), KC.tr KC.rf (KC_i 0 (rfl : ro 182 = 0) (by decide)), sI_self⟩
  refine lv_aload_n E.1 E.2.1 dX0_takeBack_16 rfl (lv_at hl 0 rfl) ?_
  refine lv_dup E.1 E.2.1 dX0_takeBack_17 rfl ?_
  refine t_get E G 0 0 (rfl : ro 182 = 0) (C := RX0) (T := TX0) (N := 3) rfl (by decide) (by decide) (by decide) mw_fl_0_9 (fvl_i rfl) dX0_takeBack_18 ?_
  refine lv_topi (fun v17 e18 => ?_)
  refine lv_iconst (v := 1) E.1 E.2.1 dX0_takeBack_21 (by decide) ?_
  refine lv_isub E.1 E.2.1 dX0_takeBack_22 ?_
  refine lv_topi (fun v19 e20 => ?_)
  refine t_puti E G 0 0 (rfl : ro 182 = 0) (C := RX0) (T := TX0) (N := 3) rfl (by decide) (by decide) (by decide) rfl rfl mw_fl_0_9 rfl dX0_takeBack_23 (fun H locs G => ?_)
  obtain ⟨zz21, G, oo22, kk23, h24, h25⟩ : ∃ u : TS, mG D A s H locs (wd K ad u) ∧ Ok u ∧ KC z u ∧ tI u 182 1 = v10 ∧ tI u 182 0 = v19 := ⟨_, G, ok_i oo14 0 (rfl : ro 182 = 0) (iv_mono (iv_full v19) (by decide) (by decide)) (by decide), KC.tr kk15 (KC_i 0 (rfl : ro 182 = 0) (by decide)), (sI_k h16 (by decide)), sI_self⟩
  refine lv_aload_n E.1 E.2.1 dX0_takeBack_26 rfl (lv_at hl 1 rfl) ?_
  refine lv_aload_n E.1 E.2.1 dX0_takeBack_27 rfl (lv_at hl 0 rfl) ?_
  refine t_get E G 0 2 (rfl : ro 182 = 0) (C := RX0) (T := TX0) (N := 3) rfl (by decide) (by decide) (by decide) mw_fl_0_20 (v := .ref (ad 183)) (fvl_o (n := 1) rfl) dX0_takeBack_28 ?_
  refine lv_aload_n E.1 E.2.1 dX0_takeBack_31 rfl (lv_at hl 0 rfl) ?_
  refine t_get E G 0 1 (rfl : ro 182 = 0) (C := RX0) (T := TX0) (N := 3) rfl (by decide) (by decide) (by decide) mw_fl_0_15 (fvl_i rfl) dX0_takeBack_32 ?_
  refine m_ci v10 h24 ?_
  refine t_aald E G 36 (rfl : ro 183 = 36) (by decide) (by decide) (t0 := 6) rfl (by decide) (n := 20) rfl rfl (iv_vp b12 (by decide) (by decide)) dX0_takeBack_35 ?_
  obtain ⟨qq26, eqq26⟩ : ∃ q : Nat, q = 183 + 1 + qst 36 * (v10 : Int32).toNatClampNeg := ⟨_, rfl⟩
  have aqq26 : at_ 6 qq26 = true := by rw [eqq26]; exact before_at _ (clamp_lt b12 (by decide) (by decide))
  rw [← eqq26]
  refine t_vv E G hl (s_copy l D K ad zz21 oo22 p0 ap0 qq26 aqq26) 6 (at_ro (i := 0) ap0 (by decide) : ro p0 = 6) (by decide) rfl rfl 1 rfl mw_code_X6_copyFrom mw_ini_6 mw_ml_0_25 mw_inst_X6_copyFrom mw_sel_X6_copyFrom hd_X6_copyFrom ⟨Nat.le_trans (by decide) hfr, Nat.le_trans (by decide) hlo⟩ rfl rfl rfl (Nat.le_of_ble_eq_true rfl) dX0_takeBack_36 (fun zz27 H locs hp29 G => ?_)
  obtain ⟨oo30, kk31⟩ := hp29
  have kk32 : KC z zz27 := KC.tr kk23 kk31
  exact RET G ⟨oo30, kk32⟩ dX0_takeBack_39
