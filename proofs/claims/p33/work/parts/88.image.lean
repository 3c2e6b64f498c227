theorem mw_cL_11_469 : (Cond.constantLong RX11 469 (3) : Cond) ∈ cw := cw_of (List.mem_append_right _ (List.mem_append_right _ (List.mem_append_right _ (List.mem_append_right _ (List.mem_append_right _ (List.mem_append_right _ (List.mem_append_right _ (List.mem_append_right _ (List.mem_of_getElem? (i := 10) (by decide +kernel)))))))))) (by decide +kernel)
theorem mw_fl_11_71 : (Cond.fieldLink RX11 71 "LureTownModel" "images" "[I" : Cond) ∈ cw := cw_of (List.mem_append_right _ (List.mem_append_right _ (List.mem_append_right _ (List.mem_append_right _ (List.mem_append_right _ (List.mem_append_left _ (List.mem_of_getElem? (i := 140) (by decide +kernel)))))))) (by decide +kernel)
theorem mw_fl_11_74 : (Cond.fieldLink RX11 74 "LureTownModel" "imageForce" "[I" : Cond) ∈ cw := cw_of (List.mem_append_right _ (List.mem_append_right _ (List.mem_append_right _ (List.mem_append_right _ (List.mem_append_right _ (List.mem_append_left _ (List.mem_of_getElem? (i := 141) (by decide +kernel)))))))) (by decide +kernel)
theorem mw_fl_11_77 : (Cond.fieldLink RX11 77 "LureTownModel" "imageX" "[I" : Cond) ∈ cw := cw_of (List.mem_append_right _ (List.mem_append_right _ (List.mem_append_right _ (List.mem_append_right _ (List.mem_append_right _ (List.mem_append_left _ (List.mem_of_getElem? (i := 142) (by decide +kernel)))))))) (by decide +kernel)
theorem mw_fl_11_80 : (Cond.fieldLink RX11 80 "LureTownModel" "isMade" "[Z" : Cond) ∈ cw := cw_of (List.mem_append_right _ (List.mem_append_right _ (List.mem_append_right _ (List.mem_append_right _ (List.mem_append_right _ (List.mem_append_left _ (List.mem_of_getElem? (i := 143) (by decide +kernel)))))))) (by decide +kernel)
theorem dX11_back_0 : decode cX11_back 0 = .ok (.iload_n 1, 1) := by decide +kernel
theorem dX11_back_1 : decode cX11_back 1 = .ok (.i2l, 1) := by decide +kernel
theorem dX11_back_2 : decode cX11_back 2 = .ok (.lconst 0, 1) := by decide +kernel
theorem dX11_back_3 : decode cX11_back 3 = .ok (.ldc2_w 469, 3) := by decide +kernel
theorem dX11_back_6 : decode cX11_back 6 = .ok (.invokestatic 121, 3) := by decide +kernel
theorem dX11_back_9 : decode cX11_back 9 = .ok (.ifCond .eq 12, 3) := by decide +kernel
theorem dX11_back_21 : decode cX11_back 21 = .ok (.iconst (-1), 1) := by decide +kernel
theorem dX11_back_22 : decode cX11_back 22 = .ok (.ireturn, 1) := by decide +kernel
theorem dX11_image_0 : decode cX11_image 0 = .ok (.iload_n 1, 1) := by decide +kernel
theorem dX11_image_1 : decode cX11_image 1 = .ok (.i2l, 1) := by decide +kernel
theorem dX11_image_2 : decode cX11_image 2 = .ok (.lconst 0, 1) := by decide +kernel
theorem dX11_image_3 : decode cX11_image 3 = .ok (.ldc2_w 469, 3) := by decide +kernel
theorem dX11_image_6 : decode cX11_image 6 = .ok (.invokestatic 121, 3) := by decide +kernel
theorem dX11_image_9 : decode cX11_image 9 = .ok (.ifCond .ne 5, 3) := by decide +kernel
theorem dX11_image_12 : decode cX11_image 12 = .ok (.iconst (-1), 1) := by decide +kernel
theorem dX11_image_13 : decode cX11_image 13 = .ok (.ireturn, 1) := by decide +kernel
theorem dX11_image_14 : decode cX11_image 14 = .ok (.aload_n 0, 1) := by decide +kernel
theorem dX11_image_15 : decode cX11_image 15 = .ok (.getfield 80, 3) := by decide +kernel
theorem dX11_image_18 : decode cX11_image 18 = .ok (.iload_n 1, 1) := by decide +kernel
theorem dX11_image_19 : decode cX11_image 19 = .ok (.iconst 1, 1) := by decide +kernel
theorem dX11_image_20 : decode cX11_image 20 = .ok (.bastore, 1) := by decide +kernel
theorem dX11_image_21 : decode cX11_image 21 = .ok (.aload_n 0, 1) := by decide +kernel
theorem dX11_image_22 : decode cX11_image 22 = .ok (.getfield 74, 3) := by decide +kernel
theorem dX11_image_25 : decode cX11_image 25 = .ok (.iload_n 1, 1) := by decide +kernel
theorem dX11_image_26 : decode cX11_image 26 = .ok (.aload_n 0, 1) := by decide +kernel
theorem dX11_image_27 : decode cX11_image 27 = .ok (.getfield 42, 3) := by decide +kernel
theorem dX11_image_30 : decode cX11_image 30 = .ok (.iastore, 1) := by decide +kernel
theorem dX11_image_31 : decode cX11_image 31 = .ok (.aload_n 0, 1) := by decide +kernel
theorem dX11_image_32 : decode cX11_image 32 = .ok (.getfield 77, 3) := by decide +kernel
theorem dX11_image_35 : decode cX11_image 35 = .ok (.iload_n 1, 1) := by decide +kernel
theorem dX11_image_36 : decode cX11_image 36 = .ok (.aload_n 0, 1) := by decide +kernel
theorem dX11_image_37 : decode cX11_image 37 = .ok (.getfield 446, 3) := by decide +kernel
theorem dX11_image_40 : decode cX11_image 40 = .ok (.iastore, 1) := by decide +kernel
theorem dX11_image_41 : decode cX11_image 41 = .ok (.iconst 0, 1) := by decide +kernel
theorem dX11_image_42 : decode cX11_image 42 = .ok (.istore_n 2, 1) := by decide +kernel
theorem dX11_image_43 : decode cX11_image 43 = .ok (.iload_n 2, 1) := by decide +kernel
theorem dX11_image_44 : decode cX11_image 44 = .ok (.bipush 127, 2) := by decide +kernel
theorem dX11_image_46 : decode cX11_image 46 = .ok (.if_icmp .ge 26, 3) := by decide +kernel
theorem dX11_image_49 : decode cX11_image 49 = .ok (.aload_n 0, 1) := by decide +kernel
theorem dX11_image_50 : decode cX11_image 50 = .ok (.getfield 71, 3) := by decide +kernel
theorem dX11_image_53 : decode cX11_image 53 = .ok (.bipush 127, 2) := by decide +kernel
theorem dX11_image_55 : decode cX11_image 55 = .ok (.iload_n 1, 1) := by decide +kernel
theorem dX11_image_56 : decode cX11_image 56 = .ok (.imul, 1) := by decide +kernel
theorem dX11_image_57 : decode cX11_image 57 = .ok (.iload_n 2, 1) := by decide +kernel
theorem dX11_image_58 : decode cX11_image 58 = .ok (.iadd, 1) := by decide +kernel
theorem dX11_image_59 : decode cX11_image 59 = .ok (.aload_n 0, 1) := by decide +kernel
theorem dX11_image_60 : decode cX11_image 60 = .ok (.getfield 39, 3) := by decide +kernel
theorem dX11_image_63 : decode cX11_image 63 = .ok (.iload_n 2, 1) := by decide +kernel
theorem dX11_image_64 : decode cX11_image 64 = .ok (.iaload, 1) := by decide +kernel
theorem dX11_image_65 : decode cX11_image 65 = .ok (.iastore, 1) := by decide +kernel
theorem dX11_image_66 : decode cX11_image 66 = .ok (.iinc 2 1, 3) := by decide +kernel
theorem dX11_image_69 : decode cX11_image 69 = .ok (.goto (-26), 3) := by decide +kernel
theorem dX11_image_72 : decode cX11_image 72 = .ok (.aload_n 0, 1) := by decide +kernel
theorem dX11_image_73 : decode cX11_image 73 = .ok (.getfield 39, 3) := by decide +kernel
theorem dX11_image_76 : decode cX11_image 76 = .ok (.bipush 10, 2) := by decide +kernel
theorem dX11_image_78 : decode cX11_image 78 = .ok (.iaload, 1) := by decide +kernel
theorem dX11_image_79 : decode cX11_image 79 = .ok (.ireturn, 1) := by decide +kernel
theorem dX11_seed_0 : decode cX11_seed 0 = .ok (.iload_n 1, 1) := by decide +kernel
theorem dX11_seed_1 : decode cX11_seed 1 = .ok (.ifCond .ge 5, 3) := by decide +kernel
theorem dX11_seed_4 : decode cX11_seed 4 = .ok (.iconst (-1), 1) := by decide +kernel
theorem dX11_seed_5 : decode cX11_seed 5 = .ok (.ireturn, 1) := by decide +kernel
theorem dX11_seed_6 : decode cX11_seed 6 = .ok (.aload_n 0, 1) := by decide +kernel
theorem dX11_seed_7 : decode cX11_seed 7 = .ok (.getfield 446, 3) := by decide +kernel
theorem dX11_seed_10 : decode cX11_seed 10 = .ok (.istore_n 2, 1) := by decide +kernel
theorem dX11_seed_11 : decode cX11_seed 11 = .ok (.aload_n 0, 1) := by decide +kernel
theorem dX11_seed_12 : decode cX11_seed 12 = .ok (.iload_n 1, 1) := by decide +kernel
theorem dX11_seed_13 : decode cX11_seed 13 = .ok (.putfield 446, 3) := by decide +kernel
theorem dX11_seed_16 : decode cX11_seed 16 = .ok (.iload_n 2, 1) := by decide +kernel
theorem dX11_seed_17 : decode cX11_seed 17 = .ok (.ireturn, 1) := by decide +kernel
set_option maxHeartbeats 4000000 in
set_option maxRecDepth 100000 in
theorem v_seed (l : Launch) (D : va_G) (K : Nat → ClassId) (ad : Nat → Nat) (z : TS) (o : Ok z) (x1 : Int32) (bx1 : iv 0 2147483647 x1) : cI l yX11_seed cX11_seed 3 .int ({ frames := 0, cells := 0, slots := 0, locals := 0 }) D K ad z [.ref (ad 386), .int x1] (fun r u => Ok u ∧ r = tI z 386 22 ∧ u = setI z 386 22 x1) := by
  refine t_enterI (by decide) (Nat.le_of_ble_eq_true rfl) rfl rfl ?_
  intro p e s m args below meth c A R Q H locs ls E hfr hlo RET G hl
  have E : mE p s m meth c cX11_seed args 3 RX11 D K A := E
  have hl : lv_has ls 3 [(0, .ref (ad 386)), (1, .int x1)] := hl
  refine lv_iload_n E.1 E.2.1 dX11_seed_0 rfl (lv_at hl 1 rfl) ?_
  refine lv_if_ge (tgt := 6) E.1 E.2.1 dX11_seed_1 (by decide) (fun _ => ?_) (fun h => absurd (ivle (iv_lit (lo := 0) (hi := 0) 0 (by decide) (by decide)) bx1 (by decide)) h)
  refine lv_aload_n E.1 E.2.1 dX11_seed_6 rfl (lv_at hl 0 rfl) ?_
  refine t_get E G 11 22 (rfl : ro 386 = 11) (C := RX11) (T := TX11) (N := 37) rfl (by decide) (by decide) (by decide) mw_fl_11_446 (fvl_i rfl) dX11_seed_7 ?_
  refine lv_topi (fun v1 e2 => ?_)
  have b3 : iv 0 2147483647 v1 := by rw [e2]; exact o.i 11 22 (rfl : ro 386 = 11)
  refine lv_istore_n (lv' := [(2, .int v1), (0, .ref (ad 386)), (1, .int x1)]) E.1 E.2.1 dX11_seed_10 rfl hl (by decide) rfl (fun ls hl => ?_)
  refine lv_aload_n E.1 E.2.1 dX11_seed_11 rfl (lv_at hl 1 rfl) ?_
  refine lv_iload_n E.1 E.2.1 dX11_seed_12 rfl (lv_at hl 2 rfl) ?_
  refine t_puti E G 11 22 (rfl : ro 386 = 11) (C := RX11) (T := TX11) (N := 37) rfl (by decide) (by decide) (by decide) rfl rfl mw_fl_11_446 rfl dX11_seed_13 (fun H locs G => ?_)
  obtain ⟨zz4, G, oo5, eu6⟩ : ∃ u : TS, mG D A s H locs (wd K ad u) ∧ Ok u ∧ u = setI z 386 22 x1 := ⟨_, G, ok_i o 11 (rfl : ro 386 = 11) (iv_mono bx1 (by decide) (by decide)) (by decide), rfl⟩
  refine lv_iload_n E.1 E.2.1 dX11_seed_16 rfl (lv_at hl 0 rfl) ?_
  exact RET G ⟨oo5, e2, eu6⟩  rfl dX11_seed_17
set_option maxHeartbeats 4000000 in
set_option maxRecDepth 100000 in
theorem v_seed_n (l : Launch) (D : va_G) (K : Nat → ClassId) (ad : Nat → Nat) (z : TS) (o : Ok z) (x1 : Int32) (bx1 : iv (-2147483648) (-1) x1) : cI l yX11_seed cX11_seed 3 .int ({ frames := 0, cells := 0, slots := 0, locals := 0 }) D K ad z [.ref (ad 386), .int x1] (fun r u => u = z ∧ iv (-1) (-1) r) := by
  refine t_enterI (by decide) (Nat.le_of_ble_eq_true rfl) rfl rfl ?_
  intro p e s m args below meth c A R Q H locs ls E hfr hlo RET G hl
  have E : mE p s m meth c cX11_seed args 3 RX11 D K A := E
  have hl : lv_has ls 3 [(0, .ref (ad 386)), (1, .int x1)] := hl
  refine lv_iload_n E.1 E.2.1 dX11_seed_0 rfl (lv_at hl 1 rfl) ?_
  refine lv_if_ge (tgt := 6) E.1 E.2.1 dX11_seed_1 (by decide) (fun h => absurd h (ivnle (iv_lit (lo := 0) (hi := 0) 0 (by decide) (by decide)) bx1 (by decide))) (fun _ => ?_)
  refine lv_iconst (v := (-1)) E.1 E.2.1 dX11_seed_4 (by decide) ?_
  exact RET G ⟨rfl, (iv_mono (iv_lit (lo := (-1)) (hi := (-1)) (-1) (by decide) (by decide)) (by decide) (by decide))⟩ rfl dX11_seed_5
set_option maxHeartbeats 4000000 in
set_option maxRecDepth 100000 in
theorem v_image (l : Launch) (D : va_G) (K : Nat → ClassId) (ad : Nat → Nat) (z : TS) (o : Ok z) (x1 : Int32) (bx1 : iv 0 3 x1) : cI l yX11_image cX11_image 3 .int ({ frames := 1, cells := 0, slots := 0, locals := 25 }) D K ad z [.ref (ad 386), .int x1] (fun r u => Ok u ∧ KV z u ∧ tI u 386 22 = tI z 386 22 ∧ (tA u 408 = upd (tA z 408) x1.toNatClampNeg 1) ∧ (tA u 407 = upd (tA z 407) x1.toNatClampNeg (tI z 386 22))) := by
  refine t_enterI (by decide) (Nat.le_of_ble_eq_true rfl) rfl rfl ?_
  intro p e s m args below meth c A R Q H locs ls E hfr hlo RET G hl
  have E : mE p s m meth c cX11_image args 3 RX11 D K A := E
  have hl : lv_has ls 3 [(0, .ref (ad 386)), (1, .int x1)] := hl
  refine lv_iload_n E.1 E.2.1 dX11_image_0 rfl (lv_at hl 1 rfl) ?_
  refine lv_i2l E.1 E.2.1 dX11_image_1 rfl ?_
  refine lv_topl (fun v1 e2 => ?_)
  refine lv_lconst (v := 0) E.1 E.2.1 dX11_image_2 (by decide) ?_
  refine lv_ldc2 (v := 3) E.1 E.2.1 E.2.2.2.1 (E.2.2.2.2.1 _ mw_cL_11_469) dX11_image_3 ?_
  refine t_si E G hl (v_in_t l D K ad z o v1 0 3 (in_t e2 bx1 (by decide) (by decide))) 3 rfl mw_code_X11_in mw_ini_11 mw_ml_11_121 mw_stat_X11_in hd_X11_in ⟨Nat.le_trans (by decide) hfr, Nat.le_trans (by decide) hlo⟩ rfl rfl rfl (Nat.le_of_ble_eq_true rfl) dX11_image_6 (fun r4 zz3 H locs hp5 G => ?_)
  obtain ⟨hz7, b6⟩ := hp5
  rw [hz7] at G
  refine lv_if_ne (tgt := 14) E.1 E.2.1 dX11_image_9 (by decide) (fun _ => ?_) (fun h => absurd h (ivne2 b6 (iv_lit (lo := 0) (hi := 0) 0 (by decide) (by decide)) (by decide)))
  refine lv_aload_n E.1 E.2.1 dX11_image_14 rfl (lv_at hl 0 rfl) ?_
  refine t_get E G 11 36 (rfl : ro 386 = 11) (C := RX11) (T := TX11) (N := 37) rfl (by decide) (by decide) (by decide) mw_fl_11_80 (v := .ref (ad 408)) (fvl_o (n := 22) rfl) dX11_image_15 ?_
  refine lv_iload_n E.1 E.2.1 dX11_image_18 rfl (lv_at hl 1 rfl) ?_
  refine lv_iconst (v := 1) E.1 E.2.1 dX11_image_19 (by decide) ?_
  refine t_zast E G 66 (rfl : ro 408 = 66) (by decide) (by decide) rfl (n := 4) rfl (iv_vp bx1 (by decide) (by decide)) dX11_image_20 (fun H locs G => ?_)
  obtain ⟨zz10, G, oo11, kk12, h13, h8, h9⟩ : ∃ u : TS, mG D A s H locs (wd K ad u) ∧ Ok u ∧ KV z u ∧ tI u 386 22 = (tI z 386 22) ∧ (tA u 407 = tA z 407) ∧ (tA u 408 = upd (tA z 408) x1.toNatClampNeg 1) := ⟨_, G, ok_u o 66 (rfl : ro 408 = 66) (wr_u (by decide) (iv_mono (iv_bool (iv_lit (lo := 1) (hi := 1) 1 (by decide) (by decide))) (by decide) (by decide))) (by decide), KF.tr KF.rf (KF_r 66 (rfl : ro 408 = 66) (by decide)), rfl, (sR_o rfl (by decide)), sR_row⟩
  refine lv_aload_n E.1 E.2.1 dX11_image_21 rfl (lv_at hl 0 rfl) ?_
  refine t_get E G 11 34 (rfl : ro 386 = 11) (C := RX11) (T := TX11) (N := 37) rfl (by decide) (by decide) (by decide) mw_fl_11_74 (v := .ref (ad 406)) (fvl_o (n := 20) rfl) dX11_image_22 ?_
  refine lv_iload_n E.1 E.2.1 dX11_image_25 rfl (lv_at hl 1 rfl) ?_
  refine lv_aload_n E.1 E.2.1 dX11_image_26 rfl (lv_at hl 0 rfl) ?_
  refine t_get E G 11 21 (rfl : ro 386 = 11) (C := RX11) (T := TX11) (N := 37) rfl (by decide) (by decide) (by decide) mw_fl_11_42 (fvl_i rfl) dX11_image_27 ?_
  refine lv_topi (fun v14 e15 => ?_)
  have b16 : iv (-1) 5 v14 := by rw [e15]; exact oo11.i 11 21 (rfl : ro 386 = 11)
  refine t_iast E G 64 (rfl : ro 406 = 64) (by decide) (by decide) rfl (n := 4) rfl (iv_vp bx1 (by decide) (by decide)) dX11_image_30 (fun H locs G => ?_)
  obtain ⟨zz19, G, oo20, kk21, h22, h23, h17, h18⟩ : ∃ u : TS, mG D A s H locs (wd K ad u) ∧ Ok u ∧ KV z u ∧ tI u 386 22 = (tI z 386 22) ∧ tI u 386 21 = v14 ∧ (tA u 407 = tA z 407) ∧ (tA u 408 = upd (tA z 408) x1.toNatClampNeg 1) := ⟨_, G, ok_u oo11 64 (rfl : ro 406 = 64) (wr_u (by decide) (iv_mono b16 (by decide) (by decide))) (by decide), KF.tr kk12 (KF_r 64 (rfl : ro 406 = 64) (by decide)), h13, e15.symm, (sR_o h8 (by decide)), (sR_o h9 (by decide))⟩
  refine lv_aload_n E.1 E.2.1 dX11_image_31 rfl (lv_at hl 0 rfl) ?_
  refine t_get E G 11 35 (rfl : ro 386 = 11) (C := RX11) (T := TX11) (N := 37) rfl (by decide) (by decide) (by decide) mw_fl_11_77 (v := .ref (ad 407)) (fvl_o (n := 21) rfl) dX11_image_32 ?_
  refine lv_iload_n E.1 E.2.1 dX11_image_35 rfl (lv_at hl 1 rfl) ?_
  refine lv_aload_n E.1 E.2.1 dX11_image_36 rfl (lv_at hl 0 rfl) ?_
  refine t_get E G 11 22 (rfl : ro 386 = 11) (C := RX11) (T := TX11) (N := 37) rfl (by decide) (by decide) (by decide) mw_fl_11_446 (fvl_i rfl) dX11_image_37 ?_
  refine lv_topi (fun v24 e25 => ?_)
  have b26 : iv 0 2147483647 v24 := by rw [e25]; exact oo20.i 11 22 (rfl : ro 386 = 11)
  refine t_iast E G 65 (rfl : ro 407 = 65) (by decide) (by decide) rfl (n := 4) rfl (iv_vp bx1 (by decide) (by decide)) dX11_image_40 (fun H locs G => ?_)
  obtain ⟨zz29, G, oo30, kk31, h32, h33, h27, h28⟩ : ∃ u : TS, mG D A s H locs (wd K ad u) ∧ Ok u ∧ KV z u ∧ tI u 386 22 = v24 ∧ tI u 386 21 = v14 ∧ (tA u 408 = upd (tA z 408) x1.toNatClampNeg 1) ∧ (tA u 407 = upd (tA z 407) x1.toNatClampNeg (tI z 386 22)) := ⟨_, G, ok_u oo20 65 (rfl : ro 407 = 65) (wr_u (by decide) (iv_mono b26 (by decide) (by decide))) (by decide), KF.tr kk21 (KF_r 65 (rfl : ro 407 = 65) (by decide)), e25.symm, h23, (sR_o h18 (by decide)), (by rw [sR_row, h17, ← (e25.trans h22)])⟩
  refine lv_iconst (v := 0) E.1 E.2.1 dX11_image_41 (by decide) ?_
  refine lv_istore_n (lv' := [(2, .int 0), (0, .ref (ad 386)), (1, .int x1)]) E.1 E.2.1 dX11_image_42 rfl hl (by decide) rfl (fun ls hl => ?_)
  have LOOP43 : ∀ n : Nat, ∀ (zz35 : TS) (y34 : Int32) (H : Heap) (locs : List Loc) (ls : Array Slot), mG D A s H locs (wd K ad zz35) → Ok zz35 → KV z zz35 → iv 0 127 y34 → tA zz35 408 = upd (tA z 408) x1.toNatClampNeg 1 → tA zz35 407 = upd (tA z 407) x1.toNatClampNeg (tI z 386 22) → tI zz35 386 22 = tI z 386 22 → 127 < y34.toInt + (n : Int) → lv_has ls 3 [(2, .int y34), (0, .ref (ad 386)), (1, .int x1)] → W p l e R s m args below meth c H locs 0 0 Q (F0 m 43 ls []) := by
    intro n
    induction n with
    | zero =>
      intro zz35 y34 H locs ls G oo36 kk37 b39 h40 h41 h42 m38 hl
      exact absurd m38 (by have := b39.1; have := b39.2; omega)
    | succ n ih43 =>
      intro zz35 y34 H locs ls G oo36 kk37 b39 h40 h41 h42 m38 hl
      refine lv_iload_n E.1 E.2.1 dX11_image_43 rfl (lv_at hl 0 rfl) ?_
      refine lv_bipush (v := 127) E.1 E.2.1 dX11_image_44 (by decide) ?_
      refine lv_icmp_ge (tgt := 72) E.1 E.2.1 dX11_image_46 (by decide) (fun c43 => ?_) (fun c43 => ?_)
      · skip
        have b44 : iv 127 127 y34 := le_r c43 (iv_lit (lo := 127) (hi := 127) 127 (by decide) (by decide)) b39 (by decide)
        refine lv_aload_n E.1 E.2.1 dX11_image_72 rfl (lv_at hl 1 rfl) ?_
        refine t_get E G 11 20 (rfl : ro 386 = 11) (C := RX11) (T := TX11) (N := 37) rfl (by decide) (by decide) (by decide) mw_fl_11_39 (v := .ref (ad 396)) (fvl_o (n := 10) rfl) dX11_image_73 ?_
        refine lv_bipush (v := 10) E.1 E.2.1 dX11_image_76 (by decide) ?_
        refine t_iald E G 54 (rfl : ro 396 = 54) (by decide) (by decide) rfl (n := 127) rfl (by unfold vp_in; decide) dX11_image_78 ?_
        refine lv_topi (fun v45 e46 => ?_)
        exact RET G ⟨oo36, kk37, h42, h40, h41⟩ rfl dX11_image_79
      · skip
        have b47 : iv 0 126 y34 := lt_l (Int32.not_le.mp c43) b39 (iv_lit (lo := 127) (hi := 127) 127 (by decide) (by decide)) (by decide)
        refine lv_aload_n E.1 E.2.1 dX11_image_49 rfl (lv_at hl 1 rfl) ?_
        refine t_get E G 11 33 (rfl : ro 386 = 11) (C := RX11) (T := TX11) (N := 37) rfl (by decide) (by decide) (by decide) mw_fl_11_71 (v := .ref (ad 405)) (fvl_o (n := 19) rfl) dX11_image_50 ?_
        refine lv_bipush (v := 127) E.1 E.2.1 dX11_image_53 (by decide) ?_
        refine lv_iload_n E.1 E.2.1 dX11_image_55 rfl (lv_at hl 2 rfl) ?_
        refine lv_imul E.1 E.2.1 dX11_image_56 ?_
        refine lv_topi (fun v48 e49 => ?_)
        have b50 : iv 0 381 v48 := by rw [e49]; exact iv_mulc' bx1 127 (by decide) (by decide) (by decide) (by decide) (by decide) (by decide)
        have l51 : v48.toInt = 0 + 127 * x1.toInt := (show v48.toInt = 127 * x1.toInt by rw [e49]; exact ti_cmul 127 (by decide) (by decide) bx1 (by decide) (by decide)).trans (by omega)
        refine lv_iload_n E.1 E.2.1 dX11_image_57 rfl (lv_at hl 0 rfl) ?_
        refine lv_iadd E.1 E.2.1 dX11_image_58 ?_
        refine lv_topi (fun v52 e53 => ?_)
        have b54 : iv 0 507 v52 := by rw [e53]; exact iv_add b50 b47 (by decide) (by decide) (by decide) (by decide)
        have l55 : v52.toInt = 0 + 127 * x1.toInt + 1 * y34.toInt := (show v52.toInt = v48.toInt + y34.toInt by rw [e53]; exact ti_addv b50 b47 (by decide) (by decide)).trans (by omega)
        refine lv_aload_n E.1 E.2.1 dX11_image_59 rfl (lv_at hl 1 rfl) ?_
        refine t_get E G 11 20 (rfl : ro 386 = 11) (C := RX11) (T := TX11) (N := 37) rfl (by decide) (by decide) (by decide) mw_fl_11_39 (v := .ref (ad 396)) (fvl_o (n := 10) rfl) dX11_image_60 ?_
        refine lv_iload_n E.1 E.2.1 dX11_image_63 rfl (lv_at hl 0 rfl) ?_
        refine t_iald E G 54 (rfl : ro 396 = 54) (by decide) (by decide) rfl (n := 127) rfl (iv_vp b47 (by decide) (by decide)) dX11_image_64 ?_
        refine lv_topi (fun v56 e57 => ?_)
        refine t_iast E G 63 (rfl : ro 405 = 63) (by decide) (by decide) rfl (n := 508) rfl (iv_vp b54 (by decide) (by decide)) dX11_image_65 (fun H locs G => ?_)
        obtain ⟨zz60, G, oo61, kk62, h63, h58, h59⟩ : ∃ u : TS, mG D A s H locs (wd K ad u) ∧ Ok u ∧ KV z u ∧ tI u 386 22 = (tI z 386 22) ∧ (tA u 408 = upd (tA z 408) x1.toNatClampNeg 1) ∧ (tA u 407 = upd (tA z 407) x1.toNatClampNeg (tI z 386 22)) := ⟨_, G, ok_u oo36 63 (rfl : ro 405 = 63) (cp2 0 127 1 0 0 1 0 3 0 126 (show iv (alo 54 (y34 : Int32).toNatClampNeg) (ahi 54 (y34 : Int32).toNatClampNeg) v56 by rw [e57]; exact oo36.a 54 (rfl : ro 396 = 54) _) bx1 b47 (l55.trans (by omega)) (by omega) (by decide +kernel)) (by decide), KF.tr kk37 (KF_r 63 (rfl : ro 405 = 63) (by decide)), h42, (sR_o h40 (by decide)), (sR_o h41 (by decide))⟩
        obtain ⟨v64, e65⟩ : ∃ w : Int32, w = y34 + (1 : Int32) := ⟨_, rfl⟩
        refine lv_iinc (v := v64) (lv' := [(2, .int v64), (0, .ref (ad 386)), (1, .int x1)]) E.1 E.2.1 dX11_image_66 hl (k := 0) rfl (by rw [e65]; rfl) (by decide) rfl (fun ls hl => ?_)
        have b66 : iv 1 127 v64 := by rw [e65]; exact iv_add b47 (iv_lit (lo := 1) (hi := 1) 1 (by decide) (by decide)) (by decide) (by decide) (by decide) (by decide)
        have t67 : v64.toInt = y34.toInt + 1 := by rw [e65]; exact ti_addc 1 (by decide) b47 (by decide) (by decide)
        refine lv_goto (tgt := 43) E.1 E.2.1 dX11_image_69 (by decide) ?_
        exact ih43 zz60 v64 H locs ls G oo61 kk62 (iv_mono b66 (by decide) (by decide)) h58 h59 h63 (by have := t67; have := m38; omega) (lv_sub hl [0, 1, 2] rfl)
  exact LOOP43 128 zz29 0 H locs ls G oo30 kk31 (iv_mono (iv_lit (lo := 0) (hi := 0) 0 (by decide) (by decide)) (by decide) (by decide)) h27 h28 (h32.trans (e25.trans h22)) (by have := (iv_lit (lo := 0) (hi := 0) 0 (by decide) (by decide)).1; omega) (lv_sub hl [0, 1, 2] rfl)
set_option maxHeartbeats 4000000 in
set_option maxRecDepth 100000 in
theorem v_image_lo (l : Launch) (D : va_G) (K : Nat → ClassId) (ad : Nat → Nat) (z : TS) (o : Ok z) (x1 : Int32) (bx1 : iv (-2147483648) (-1) x1) : cI l yX11_image cX11_image 3 .int ({ frames := 1, cells := 0, slots := 0, locals := 25 }) D K ad z [.ref (ad 386), .int x1] (fun r u => u = z) := by
  refine t_enterI (by decide) (Nat.le_of_ble_eq_true rfl) rfl rfl ?_
  intro p e s m args below meth c A R Q H locs ls E hfr hlo RET G hl
  have E : mE p s m meth c cX11_image args 3 RX11 D K A := E
  have hl : lv_has ls 3 [(0, .ref (ad 386)), (1, .int x1)] := hl
  refine lv_iload_n E.1 E.2.1 dX11_image_0 rfl (lv_at hl 1 rfl) ?_
  refine lv_i2l E.1 E.2.1 dX11_image_1 rfl ?_
  refine lv_topl (fun v1 e2 => ?_)
  refine lv_lconst (v := 0) E.1 E.2.1 dX11_image_2 (by decide) ?_
  refine lv_ldc2 (v := 3) E.1 E.2.1 E.2.2.2.1 (E.2.2.2.2.1 _ mw_cL_11_469) dX11_image_3 ?_
  refine t_si E G hl (v_in_lo l D K ad z o v1 0 3 (in_lo e2 bx1 (by decide))) 3 rfl mw_code_X11_in mw_ini_11 mw_ml_11_121 mw_stat_X11_in hd_X11_in ⟨Nat.le_trans (by decide) hfr, Nat.le_trans (by decide) hlo⟩ rfl rfl rfl (Nat.le_of_ble_eq_true rfl) dX11_image_6 (fun r4 zz3 H locs hp5 G => ?_)
  obtain ⟨hz7, b6⟩ := hp5
  rw [hz7] at G
  refine lv_if_ne (tgt := 14) E.1 E.2.1 dX11_image_9 (by decide) (fun h => absurd (iv_one b6 (by decide)) h) (fun _ => ?_)
  refine lv_iconst (v := (-1)) E.1 E.2.1 dX11_image_12 (by decide) ?_
  exact RET G rfl rfl dX11_image_13
set_option maxHeartbeats 4000000 in
set_option maxRecDepth 100000 in
theorem v_back_lo (l : Launch) (D : va_G) (K : Nat → ClassId) (ad : Nat → Nat) (z : TS) (o : Ok z) (x1 : Int32) (bx1 : iv (-2147483648) (-1) x1) : cI l yX11_back cX11_back 3 .int ({ frames := 1, cells := 0, slots := 0, locals := 25 }) D K ad z [.ref (ad 386), .int x1] (fun r u => u = z) := by
  refine t_enterI (by decide) (Nat.le_of_ble_eq_true rfl) rfl rfl ?_
  intro p e s m args below meth c A R Q H locs ls E hfr hlo RET G hl
  have E : mE p s m meth c cX11_back args 3 RX11 D K A := E
  have hl : lv_has ls 3 [(0, .ref (ad 386)), (1, .int x1)] := hl
  refine lv_iload_n E.1 E.2.1 dX11_back_0 rfl (lv_at hl 1 rfl) ?_
  refine lv_i2l E.1 E.2.1 dX11_back_1 rfl ?_
  refine lv_topl (fun v1 e2 => ?_)
  refine lv_lconst (v := 0) E.1 E.2.1 dX11_back_2 (by decide) ?_
  refine lv_ldc2 (v := 3) E.1 E.2.1 E.2.2.2.1 (E.2.2.2.2.1 _ mw_cL_11_469) dX11_back_3 ?_
  refine t_si E G hl (v_in_lo l D K ad z o v1 0 3 (in_lo e2 bx1 (by decide))) 3 rfl mw_code_X11_in mw_ini_11 mw_ml_11_121 mw_stat_X11_in hd_X11_in ⟨Nat.le_trans (by decide) hfr, Nat.le_trans (by decide) hlo⟩ rfl rfl rfl (Nat.le_of_ble_eq_true rfl) dX11_back_6 (fun r4 zz3 H locs hp5 G => ?_)
  obtain ⟨hz7, b6⟩ := hp5
  rw [hz7] at G
  refine lv_if_eq (tgt := 21) E.1 E.2.1 dX11_back_9 (by decide) (fun _ => ?_) (fun h => absurd (iv_one b6 (by decide)) h)
  refine lv_iconst (v := (-1)) E.1 E.2.1 dX11_back_21 (by decide) ?_
  exact RET G rfl rfl dX11_back_22
set_option maxHeartbeats 4000000 in
set_option maxRecDepth 100000 in
theorem v_image_hi (l : Launch) (D : va_G) (K : Nat → ClassId) (ad : Nat → Nat) (z : TS) (o : Ok z) (x1 : Int32) (bx1 : iv 4 2147483647 x1) : cI l yX11_image cX11_image 3 .int ({ frames := 1, cells := 0, slots := 0, locals := 25 }) D K ad z [.ref (ad 386), .int x1] (fun r u => u = z) := by
  refine t_enterI (by decide) (Nat.le_of_ble_eq_true rfl) rfl rfl ?_
  intro p e s m args below meth c A R Q H locs ls E hfr hlo RET G hl
  have E : mE p s m meth c cX11_image args 3 RX11 D K A := E
  have hl : lv_has ls 3 [(0, .ref (ad 386)), (1, .int x1)] := hl
  refine lv_iload_n E.1 E.2.1 dX11_image_0 rfl (lv_at hl 1 rfl) ?_
  refine lv_i2l E.1 E.2.1 dX11_image_1 rfl ?_
  refine lv_topl (fun v1 e2 => ?_)
  refine lv_lconst (v := 0) E.1 E.2.1 dX11_image_2 (by decide) ?_
  refine lv_ldc2 (v := 3) E.1 E.2.1 E.2.2.2.1 (E.2.2.2.2.1 _ mw_cL_11_469) dX11_image_3 ?_
  refine t_si E G hl (v_in_hi l D K ad z o v1 0 3 (in_hi e2 bx1 (by decide) (by decide))) 3 rfl mw_code_X11_in mw_ini_11 mw_ml_11_121 mw_stat_X11_in hd_X11_in ⟨Nat.le_trans (by decide) hfr, Nat.le_trans (by decide) hlo⟩ rfl rfl rfl (Nat.le_of_ble_eq_true rfl) dX11_image_6 (fun r4 zz3 H locs hp5 G => ?_)
  obtain ⟨hz7, b6⟩ := hp5
  rw [hz7] at G
  refine lv_if_ne (tgt := 14) E.1 E.2.1 dX11_image_9 (by decide) (fun h => absurd (iv_one b6 (by decide)) h) (fun _ => ?_)
  refine lv_iconst (v := (-1)) E.1 E.2.1 dX11_image_12 (by decide) ?_
  exact RET G rfl rfl dX11_image_13
set_option maxHeartbeats 4000000 in
set_option maxRecDepth 100000 in
theorem v_back_hi (l : Launch) (D : va_G) (K : Nat → ClassId) (ad : Nat → Nat) (z : TS) (o : Ok z) (x1 : Int32) (bx1 : iv 4 2147483647 x1) : cI l yX11_back cX11_back 3 .int ({ frames := 1, cells := 0, slots := 0, locals := 25 }) D K ad z [.ref (ad 386), .int x1] (fun r u => u = z) := by
  refine t_enterI (by decide) (Nat.le_of_ble_eq_true rfl) rfl rfl ?_
  intro p e s m args below meth c A R Q H locs ls E hfr hlo RET G hl
  have E : mE p s m meth c cX11_back args 3 RX11 D K A := E
  have hl : lv_has ls 3 [(0, .ref (ad 386)), (1, .int x1)] := hl
  refine lv_iload_n E.1 E.2.1 dX11_back_0 rfl (lv_at hl 1 rfl) ?_
  refine lv_i2l E.1 E.2.1 dX11_back_1 rfl ?_
  refine lv_topl (fun v1 e2 => ?_)
  refine lv_lconst (v := 0) E.1 E.2.1 dX11_back_2 (by decide) ?_
  refine lv_ldc2 (v := 3) E.1 E.2.1 E.2.2.2.1 (E.2.2.2.2.1 _ mw_cL_11_469) dX11_back_3 ?_
  refine t_si E G hl (v_in_hi l D K ad z o v1 0 3 (in_hi e2 bx1 (by decide) (by decide))) 3 rfl mw_code_X11_in mw_ini_11 mw_ml_11_121 mw_stat_X11_in hd_X11_in ⟨Nat.le_trans (by decide) hfr, Nat.le_trans (by decide) hlo⟩ rfl rfl rfl (Nat.le_of_ble_eq_true rfl) dX11_back_6 (fun r4 zz3 H locs hp5 G => ?_)
  obtain ⟨hz7, b6⟩ := hp5
  rw [hz7] at G
  refine lv_if_eq (tgt := 21) E.1 E.2.1 dX11_back_9 (by decide) (fun _ => ?_) (fun h => absurd (iv_one b6 (by decide)) h)
  refine lv_iconst (v := (-1)) E.1 E.2.1 dX11_back_21 (by decide) ?_
  exact RET G rfl rfl dX11_back_22
