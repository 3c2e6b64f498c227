theorem mw_code_X4_clear : (Cond.code yX4_clear cX4_clear 1 none : Cond) ∈ cw := cw_of (List.mem_append_right _ (List.mem_append_right _ (List.mem_append_right _ (List.mem_append_left _ (List.mem_of_getElem? (i := 188) rfl))))) (by decide +kernel)
theorem mw_code_X5_takeToken : (Cond.code yX5_takeToken cX5_takeToken 1 none : Cond) ∈ cw := cw_of (List.mem_append_right _ (List.mem_append_right _ (List.mem_append_right _ (List.mem_append_left _ (List.mem_of_getElem? (i := 194) rfl))))) (by decide +kernel)
theorem mw_code_X7_readToken : (Cond.code yX7_readToken cX7_readToken 1 none : Cond) ∈ cw := cw_of (List.mem_append_right _ (List.mem_append_right _ (List.mem_append_left _ (List.mem_of_getElem? (i := 215) rfl)))) (by decide +kernel)
theorem mw_code_X7_rewind : (Cond.code yX7_rewind cX7_rewind 1 none : Cond) ∈ cw := cw_of (List.mem_append_right _ (List.mem_append_right _ (List.mem_append_left _ (List.mem_of_getElem? (i := 207) rfl)))) (by decide +kernel)
theorem mw_fl_5_54 : (Cond.fieldLink RX5 54 "LureTown$Tape" "fault" "I" : Cond) ∈ cw := cw_of (List.mem_append_right _ (List.mem_append_left _ (List.mem_of_getElem? (i := 40) (by decide +kernel)))) (by decide +kernel)
theorem mw_inst_X4_clear : (Cond.instanceMethod yX4_clear : Cond) ∈ cw := cw_of (List.mem_append_right _ (List.mem_append_right _ (List.mem_append_right _ (List.mem_append_left _ (List.mem_of_getElem? (i := 186) (by decide +kernel)))))) (by decide +kernel)
theorem mw_inst_X5_takeToken : (Cond.instanceMethod yX5_takeToken : Cond) ∈ cw := cw_of (List.mem_append_right _ (List.mem_append_right _ (List.mem_append_right _ (List.mem_append_left _ (List.mem_of_getElem? (i := 193) (by decide +kernel)))))) (by decide +kernel)
theorem mw_inst_X7_readToken : (Cond.instanceMethod yX7_readToken : Cond) ∈ cw := cw_of (List.mem_append_right _ (List.mem_append_right _ (List.mem_append_left _ (List.mem_of_getElem? (i := 213) (by decide +kernel))))) (by decide +kernel)
theorem mw_inst_X7_rewind : (Cond.instanceMethod yX7_rewind : Cond) ∈ cw := cw_of (List.mem_append_right _ (List.mem_append_right _ (List.mem_append_left _ (List.mem_of_getElem? (i := 205) (by decide +kernel))))) (by decide +kernel)
theorem mw_ml_5_48 : (Cond.methodLink RX5 48 yX4_clear : Cond) ∈ cw := cw_of (List.mem_append_right _ (List.mem_append_right _ (List.mem_append_right _ (List.mem_append_left _ (List.mem_of_getElem? (i := 185) (by decide +kernel)))))) (by decide +kernel)
theorem mw_ml_5_51 : (Cond.methodLink RX5 51 yX7_rewind : Cond) ∈ cw := cw_of (List.mem_append_right _ (List.mem_append_right _ (List.mem_append_right _ (List.mem_append_left _ (List.mem_of_getElem? (i := 189) (by decide +kernel)))))) (by decide +kernel)
theorem mw_ml_5_57 : (Cond.methodLink RX5 57 yX7_readToken : Cond) ∈ cw := cw_of (List.mem_append_right _ (List.mem_append_right _ (List.mem_append_right _ (List.mem_append_left _ (List.mem_of_getElem? (i := 190) (by decide +kernel)))))) (by decide +kernel)
theorem mw_ml_5_60 : (Cond.methodLink RX5 60 yX5_takeToken : Cond) ∈ cw := cw_of (List.mem_append_right _ (List.mem_append_right _ (List.mem_append_right _ (List.mem_append_left _ (List.mem_of_getElem? (i := 191) (by decide +kernel)))))) (by decide +kernel)
theorem mw_sel_X4_clear : (Cond.selects RX4 yX4_clear yX4_clear : Cond) ∈ cw := cw_of (List.mem_append_right _ (List.mem_append_right _ (List.mem_append_right _ (List.mem_append_left _ (List.mem_of_getElem? (i := 187) (by decide +kernel)))))) (by decide +kernel)
theorem mw_sel_X5_takeToken : (Cond.selects RX5 yX5_takeToken yX5_takeToken : Cond) ∈ cw := cw_of (List.mem_append_left _ (List.mem_of_getElem? (i := 12) (by decide +kernel))) (by decide +kernel)
theorem mw_sel_X7_readToken : (Cond.selects RX7 yX7_readToken yX7_readToken : Cond) ∈ cw := cw_of (List.mem_append_right _ (List.mem_append_right _ (List.mem_append_left _ (List.mem_of_getElem? (i := 214) (by decide +kernel))))) (by decide +kernel)
theorem mw_sel_X7_rewind : (Cond.selects RX7 yX7_rewind yX7_rewind : Cond) ∈ cw := cw_of (List.mem_append_right _ (List.mem_append_right _ (List.mem_append_left _ (List.mem_of_getElem? (i := 206) (by decide +kernel))))) (by decide +kernel)
theorem dX5_read_0 : decode cX5_read 0 = .ok (.aload_n 0, 1) := by decide +kernel
theorem dX5_read_1 : decode cX5_read 1 = .ok (.aload_n 1, 1) := by decide +kernel
theorem dX5_read_2 : decode cX5_read 2 = .ok (.putfield 12, 3) := by decide +kernel
theorem dX5_read_5 : decode cX5_read 5 = .ok (.aload_n 0, 1) := by decide +kernel
theorem dX5_read_6 : decode cX5_read 6 = .ok (.aload_n 2, 1) := by decide +kernel
theorem dX5_read_7 : decode cX5_read 7 = .ok (.putfield 44, 3) := by decide +kernel
theorem dX5_read_10 : decode cX5_read 10 = .ok (.aload_n 0, 1) := by decide +kernel
theorem dX5_read_11 : decode cX5_read 11 = .ok (.getfield 44, 3) := by decide +kernel
theorem dX5_read_14 : decode cX5_read 14 = .ok (.invokevirtual 48, 3) := by decide +kernel
theorem dX5_read_17 : decode cX5_read 17 = .ok (.aload_n 0, 1) := by decide +kernel
theorem dX5_read_18 : decode cX5_read 18 = .ok (.getfield 12, 3) := by decide +kernel
theorem dX5_read_21 : decode cX5_read 21 = .ok (.invokevirtual 51, 3) := by decide +kernel
theorem dX5_read_24 : decode cX5_read 24 = .ok (.aload_n 0, 1) := by decide +kernel
theorem dX5_read_25 : decode cX5_read 25 = .ok (.iconst 0, 1) := by decide +kernel
theorem dX5_read_26 : decode cX5_read 26 = .ok (.putfield 22, 3) := by decide +kernel
theorem dX5_read_29 : decode cX5_read 29 = .ok (.aload_n 0, 1) := by decide +kernel
theorem dX5_read_30 : decode cX5_read 30 = .ok (.iconst 0, 1) := by decide +kernel
theorem dX5_read_31 : decode cX5_read 31 = .ok (.putfield 26, 3) := by decide +kernel
theorem dX5_read_34 : decode cX5_read 34 = .ok (.aload_n 0, 1) := by decide +kernel
theorem dX5_read_35 : decode cX5_read 35 = .ok (.iconst 0, 1) := by decide +kernel
theorem dX5_read_36 : decode cX5_read 36 = .ok (.putfield 29, 3) := by decide +kernel
theorem dX5_read_39 : decode cX5_read 39 = .ok (.aload_n 0, 1) := by decide +kernel
theorem dX5_read_40 : decode cX5_read 40 = .ok (.iconst 0, 1) := by decide +kernel
theorem dX5_read_41 : decode cX5_read 41 = .ok (.putfield 32, 3) := by decide +kernel
theorem dX5_read_44 : decode cX5_read 44 = .ok (.aload_n 0, 1) := by decide +kernel
theorem dX5_read_45 : decode cX5_read 45 = .ok (.iconst 0, 1) := by decide +kernel
theorem dX5_read_46 : decode cX5_read 46 = .ok (.putfield 35, 3) := by decide +kernel
theorem dX5_read_49 : decode cX5_read 49 = .ok (.iconst 0, 1) := by decide +kernel
theorem dX5_read_50 : decode cX5_read 50 = .ok (.istore_n 3, 1) := by decide +kernel
theorem dX5_read_51 : decode cX5_read 51 = .ok (.iload_n 3, 1) := by decide +kernel
theorem dX5_read_52 : decode cX5_read 52 = .ok (.sipush 400, 3) := by decide +kernel
theorem dX5_read_55 : decode cX5_read 55 = .ok (.if_icmp .gt 38, 3) := by decide +kernel
theorem dX5_read_58 : decode cX5_read 58 = .ok (.aload_n 0, 1) := by decide +kernel
theorem dX5_read_59 : decode cX5_read 59 = .ok (.getfield 12, 3) := by decide +kernel
theorem dX5_read_62 : decode cX5_read 62 = .ok (.getfield 54, 3) := by decide +kernel
theorem dX5_read_65 : decode cX5_read 65 = .ok (.ifCond .ne 28, 3) := by decide +kernel
theorem dX5_read_68 : decode cX5_read 68 = .ok (.aload_n 0, 1) := by decide +kernel
theorem dX5_read_69 : decode cX5_read 69 = .ok (.getfield 35, 3) := by decide +kernel
theorem dX5_read_72 : decode cX5_read 72 = .ok (.iconst 4, 1) := by decide +kernel
theorem dX5_read_73 : decode cX5_read 73 = .ok (.if_icmp .eq 20, 3) := by decide +kernel
theorem dX5_read_76 : decode cX5_read 76 = .ok (.aload_n 0, 1) := by decide +kernel
theorem dX5_read_77 : decode cX5_read 77 = .ok (.getfield 12, 3) := by decide +kernel
theorem dX5_read_80 : decode cX5_read 80 = .ok (.invokevirtual 57, 3) := by decide +kernel
theorem dX5_read_83 : decode cX5_read 83 = .ok (.aload_n 0, 1) := by decide +kernel
theorem dX5_read_84 : decode cX5_read 84 = .ok (.invokevirtual 60, 3) := by decide +kernel
theorem dX5_read_87 : decode cX5_read 87 = .ok (.iinc 3 1, 3) := by decide +kernel
theorem dX5_read_90 : decode cX5_read 90 = .ok (.goto (-39), 3) := by decide +kernel
theorem dX5_read_93 : decode cX5_read 93 = .ok (.return_, 1) := by decide +kernel
theorem hd_X4_clear : yX4_clear.cls ≠ "java/lang/invoke/MethodHandle" ∧ yX4_clear.cls ≠ "java/lang/invoke/VarHandle" ∧ (parseMethodDescriptor yX4_clear.desc).map (fun d => d.parameters.length) = some 0 := ⟨by decide +kernel, by decide +kernel, by decide +kernel⟩
theorem hd_X5_takeToken : yX5_takeToken.cls ≠ "java/lang/invoke/MethodHandle" ∧ yX5_takeToken.cls ≠ "java/lang/invoke/VarHandle" ∧ (parseMethodDescriptor yX5_takeToken.desc).map (fun d => d.parameters.length) = some 0 := ⟨by decide +kernel, by decide +kernel, by decide +kernel⟩
theorem hd_X7_readToken : yX7_readToken.cls ≠ "java/lang/invoke/MethodHandle" ∧ yX7_readToken.cls ≠ "java/lang/invoke/VarHandle" ∧ (parseMethodDescriptor yX7_readToken.desc).map (fun d => d.parameters.length) = some 0 := ⟨by decide +kernel, by decide +kernel, by decide +kernel⟩
theorem hd_X7_rewind : yX7_rewind.cls ≠ "java/lang/invoke/MethodHandle" ∧ yX7_rewind.cls ≠ "java/lang/invoke/VarHandle" ∧ (parseMethodDescriptor yX7_rewind.desc).map (fun d => d.parameters.length) = some 0 := ⟨by decide +kernel, by decide +kernel, by decide +kernel⟩
set_option maxHeartbeats 4000000 in
set_option maxRecDepth 100000 in
theorem rr_read (l : Launch) (D : va_G) (K : Nat → ClassId) (ad : Nat → Nat) (z : TS) (o : Ok z) (p0 : Nat) (ap0 : at_ 7 p0 = true) (p1 : Nat) (ap1 : at_ 4 p1 = true) : cV l yX5_read cX5_read 4 ({ frames := 7, cells := 0, slots := 0, locals := 150 }) D K ad z [.ref (ad 5), .ref (ad p0), .ref (ad p1)] (fun u => Ok u ∧ KC z u ∧ tI u 0 5 = tI z 0 5) := by
  refine t_enterV (by decide) (Nat.le_of_ble_eq_true rfl) rfl rfl ?_
  intro p e s m args below meth c A R Q H locs ls E hfr hlo RET G hl
  have E : mE p s m meth c cX5_read args 4 RX5 D K A := E
  have hl : lv_has ls 4 [(0, .ref (ad 5)), (1, .ref (ad p0)), (2, .ref (ad p1))] := hl
  refine lv_aload_n E.1 E.2.1 dX5_read_0 rfl (lv_at hl 0 rfl) ?_
  refine lv_aload_n E.1 E.2.1 dX5_read_1 rfl (lv_at hl 1 rfl) ?_
  refine t_putp E G 5 0 (rfl : ro 5 = 5) (v := p0) (C := RX5) (T := TX5) (N := 9) rfl (by decide) (by decide) (by decide) rfl rfl mw_fl_5_12 rfl dX5_read_2 (fun H locs G => ?_)
  obtain ⟨zz1, G, oo2, kk3, h4, h5⟩ : ∃ u : TS, mG D A s H locs (wd K ad u) ∧ Ok u ∧ KC z u ∧ tI u 0 5 = (tI z 0 5) ∧ tP u 5 0 = p0 := ⟨_, G, ok_p o 5 (rfl : ro 5 = 5) ap0, KC.tr KC.rf (KC_p), rfl, sP_self⟩
  refine lv_aload_n E.1 E.2.1 dX5_read_5 rfl (lv_at hl 0 rfl) ?_
  refine lv_aload_n E.1 E.2.1 dX5_read_6 rfl (lv_at hl 2 rfl) ?_
  refine t_putp E G 5 8 (rfl : ro 5 = 5) (v := p1) (C := RX5) (T := TX5) (N := 9) rfl (by decide) (by decide) (by decide) rfl rfl mw_fl_5_44 rfl dX5_read_7 (fun H locs G => ?_)
  obtain ⟨zz6, G, oo7, kk8, h9, h10, h11⟩ : ∃ u : TS, mG D A s H locs (wd K ad u) ∧ Ok u ∧ KC z u ∧ tI u 0 5 = (tI z 0 5) ∧ tP u 5 0 = p0 ∧ tP u 5 8 = p1 := ⟨_, G, ok_p oo2 5 (rfl : ro 5 = 5) ap1, KC.tr kk3 (KC_p), h4, (sP_k h5 (by decide)), sP_self⟩
  refine lv_aload_n E.1 E.2.1 dX5_read_10 rfl (lv_at hl 0 rfl) ?_
  refine t_get E G 5 8 (rfl : ro 5 = 5) (C := RX5) (T := TX5) (N := 9) rfl (by decide) (by decide) (by decide) mw_fl_5_44 (fvl_d rfl) dX5_read_11 ?_
  rw [h11]
  refine t_vv E G hl (r_clear l D K ad zz6 oo7 p1 ap1) 4 (at_ro (i := 0) ap1 (by decide) : ro p1 = 4) (by decide) rfl rfl 0 rfl mw_code_X4_clear mw_ini_4 mw_ml_5_48 mw_inst_X4_clear mw_sel_X4_clear hd_X4_clear ⟨Nat.le_trans (by decide) hfr, Nat.le_trans (by decide) hlo⟩ rfl rfl rfl (Nat.le_of_ble_eq_true rfl) dX5_read_14 (fun zz13 H locs hp15 G => ?_)
  obtain ⟨oo16, kk17, h18⟩ := hp15
  have kk19 : KC z zz13 := KC.tr kk8 kk17
  refine lv_aload_n E.1 E.2.1 dX5_read_17 rfl (lv_at hl 0 rfl) ?_
  refine t_get E G 5 0 (rfl : ro 5 = 5) (C := RX5) (T := TX5) (N := 9) rfl (by decide) (by decide) (by decide) mw_fl_5_12 (fvl_d rfl) dX5_read_18 ?_
  obtain ⟨qq20, eqq20⟩ : ∃ q : Nat, q = tP zz13 5 0 := ⟨_, rfl⟩
  have aqq20 : at_ 7 qq20 = true := by rw [eqq20]; exact oo16.p 5 0 (rfl : ro 5 = 5) (by decide)
  rw [← eqq20]
  refine t_vv E G hl (tp_rewind l D K ad zz13 oo16 qq20 aqq20) 7 (at_ro (i := 0) aqq20 (by decide) : ro qq20 = 7) (by decide) rfl rfl 0 rfl mw_code_X7_rewind mw_ini_7 mw_ml_5_51 mw_inst_X7_rewind mw_sel_X7_rewind hd_X7_rewind ⟨Nat.le_trans (by decide) hfr, Nat.le_trans (by decide) hlo⟩ rfl rfl rfl (Nat.le_of_ble_eq_true rfl) dX5_read_21 (fun zz21 H locs hp23 G => ?_)
  obtain ⟨oo24, kk25⟩ := hp23
  have kk26 : KC z zz21 := KC.tr kk19 (KT.c kk25)
  have h27 : tI zz21 0 5 = (tI z 0 5) := KF.i kk25 10 (rfl : ro 0 = 10) (by decide) (h18.trans h9)
  have h28 : tP zz21 5 0 = qq20 := KF.p kk25 eqq20.symm
  refine lv_aload_n E.1 E.2.1 dX5_read_24 rfl (lv_at hl 0 rfl) ?_
  refine lv_iconst (v := 0) E.1 E.2.1 dX5_read_25 (by decide) ?_
  refine t_puti E G 5 2 (rfl : ro 5 = 5) (C := RX5) (T := TX5) (N := 9) rfl (by decide) (by decide) (by decide) rfl rfl mw_fl_5_22 rfl dX5_read_26 (fun H locs G => ?_)
  obtain ⟨zz29, G, oo30, kk31, h32, h33, h34⟩ : ∃ u : TS, mG D A s H locs (wd K ad u) ∧ Ok u ∧ KC z u ∧ tI u 0 5 = (tI z 0 5) ∧ tI u 5 2 = 0 ∧ tP u 5 0 = qq20 := ⟨_, G, ok_i oo24 5 (rfl : ro 5 = 5) (iv_mono (iv_lit (lo := 0) (hi := 0) 0 (by decide) (by decide)) (by decide) (by decide)) (by decide), KC.tr kk26 (KC_i 5 (rfl : ro 5 = 5) (by decide)), (sI_k h27 (by decide)), sI_self, h28⟩
  refine lv_aload_n E.1 E.2.1 dX5_read_29 rfl (lv_at hl 0 rfl) ?_
  refine lv_iconst (v := 0) E.1 E.2.1 dX5_read_30 (by decide) ?_
  refine t_puti E G 5 3 (rfl : ro 5 = 5) (C := RX5) (T := TX5) (N := 9) rfl (by decide) (by decide) (by decide) rfl rfl mw_fl_5_26 rfl dX5_read_31 (fun H locs G => ?_)
  obtain ⟨zz35, G, oo36, kk37, h38, h39, h40, h41⟩ : ∃ u : TS, mG D A s H locs (wd K ad u) ∧ Ok u ∧ KC z u ∧ tI u 0 5 = (tI z 0 5) ∧ tI u 5 2 = 0 ∧ tI u 5 3 = 0 ∧ tP u 5 0 = qq20 := ⟨_, G, ok_i oo30 5 (rfl : ro 5 = 5) (iv_mono (iv_lit (lo := 0) (hi := 0) 0 (by decide) (by decide)) (by decide) (by decide)) (by decide), KC.tr kk31 (KC_i 5 (rfl : ro 5 = 5) (by decide)), (sI_k h32 (by decide)), (sI_k h33 (by decide)), sI_self, h34⟩
  refine lv_aload_n E.1 E.2.1 dX5_read_34 rfl (lv_at hl 0 rfl) ?_
  refine lv_iconst (v := 0) E.1 E.2.1 dX5_read_35 (by decide) ?_
  refine t_puti E G 5 4 (rfl : ro 5 = 5) (C := RX5) (T := TX5) (N := 9) rfl (by decide) (by decide) (by decide) rfl rfl mw_fl_5_29 rfl dX5_read_36 (fun H locs G => ?_)
  obtain ⟨zz42, G, oo43, kk44, h45, h46, h47, h48, h49⟩ : ∃ u : TS, mG D A s H locs (wd K ad u) ∧ Ok u ∧ KC z u ∧ tI u 0 5 = (tI z 0 5) ∧ tI u 5 2 = 0 ∧ tI u 5 3 = 0 ∧ tI u 5 4 = 0 ∧ tP u 5 0 = qq20 := ⟨_, G, ok_i oo36 5 (rfl : ro 5 = 5) (iv_mono (iv_lit (lo := 0) (hi := 0) 0 (by decide) (by decide)) (by decide) (by decide)) (by decide), KC.tr kk37 (KC_i 5 (rfl : ro 5 = 5) (by decide)), (sI_k h38 (by decide)), (sI_k h39 (by decide)), (sI_k h40 (by decide)), sI_self, h41⟩
  refine lv_aload_n E.1 E.2.1 dX5_read_39 rfl (lv_at hl 0 rfl) ?_
  refine lv_iconst (v := 0) E.1 E.2.1 dX5_read_40 (by decide) ?_
  refine t_puti E G 5 5 (rfl : ro 5 = 5) (C := RX5) (T := TX5) (N := 9) rfl (by decide) (by decide) (by decide) rfl rfl mw_fl_5_32 rfl dX5_read_41 (fun H locs G => ?_)
  obtain ⟨zz50, G, oo51, kk52, h53, h54, h55, h56, h57, h58⟩ : ∃ u : TS, mG D A s H locs (wd K ad u) ∧ Ok u ∧ KC z u ∧ tI u 0 5 = (tI z 0 5) ∧ tI u 5 2 = 0 ∧ tI u 5 3 = 0 ∧ tI u 5 4 = 0 ∧ tI u 5 5 = 0 ∧ tP u 5 0 = qq20 := ⟨_, G, ok_i oo43 5 (rfl : ro 5 = 5) (iv_mono (iv_lit (lo := 0) (hi := 0) 0 (by decide) (by decide)) (by decide) (by decide)) (by decide), KC.tr kk44 (KC_i 5 (rfl : ro 5 = 5) (by decide)), (sI_j h45 (by decide)), (sI_k h46 (by decide)), (sI_k h47 (by decide)), (sI_k h48 (by decide)), sI_self, h49⟩
  refine lv_aload_n E.1 E.2.1 dX5_read_44 rfl (lv_at hl 0 rfl) ?_
  refine lv_iconst (v := 0) E.1 E.2.1 dX5_read_45 (by decide) ?_
  refine t_puti E G 5 6 (rfl : ro 5 = 5) (C := RX5) (T := TX5) (N := 9) rfl (by decide) (by decide) (by decide) rfl rfl mw_fl_5_35 rfl dX5_read_46 (fun H locs G => ?_)
  obtain ⟨zz59, G, oo60, kk61, h62, h63, h64, h65, h66, h67, h68⟩ : ∃ u : TS, mG D A s H locs (wd K ad u) ∧ Ok u ∧ KC z u ∧ tI u 0 5 = (tI z 0 5) ∧ tI u 5 2 = 0 ∧ tI u 5 3 = 0 ∧ tI u 5 4 = 0 ∧ tI u 5 5 = 0 ∧ tI u 5 6 = 0 ∧ tP u 5 0 = qq20 := ⟨_, G, ok_i oo51 5 (rfl : ro 5 = 5) (iv_mono (iv_lit (lo := 0) (hi := 0) 0 (by decide) (by decide)) (by decide) (by decide)) (by decide), KC.tr kk52 (KC_i 5 (rfl : ro 5 = 5) (by decide)), (sI_k h53 (by decide)), (sI_k h54 (by decide)), (sI_k h55 (by decide)), (sI_k h56 (by decide)), (sI_k h57 (by decide)), sI_self, h58⟩
  refine lv_iconst (v := 0) E.1 E.2.1 dX5_read_49 (by decide) ?_
  refine lv_istore_n (lv' := [(3, .int 0), (0, .ref (ad 5)), (1, .ref (ad p0)), (2, .ref (ad p1))]) E.1 E.2.1 dX5_read_50 rfl hl (by decide) rfl (fun ls hl => ?_)
  have LOOP51 : ∀ n : Nat, ∀ (zz70 : TS) (y69 : Int32) (H : Heap) (locs : List Loc) (ls : Array Slot), mG D A s H locs (wd K ad zz70) → Ok zz70 → KC z zz70 → iv 0 401 y69 → tI zz70 0 5 = tI z 0 5 → 401 < y69.toInt + (n : Int) → lv_has ls 4 [(3, .int y69), (0, .ref (ad 5)), (1, .ref (ad p0)), (2, .ref (ad p1))] → W p l e R s m args below meth c H locs 0 0 Q (F0 m 51 ls []) := by
    intro n
    induction n with
    | zero =>
      intro zz70 y69 H locs ls G oo71 kk72 b74 h75 m73 hl
      exact absurd m73 (by have := b74.1; have := b74.2; omega)
    | succ n ih51 =>
      intro zz70 y69 H locs ls G oo71 kk72 b74 h75 m73 hl
      refine lv_iload_n E.1 E.2.1 dX5_read_51 rfl (lv_at hl 0 rfl) ?_
      refine lv_sipush (v := 400) E.1 E.2.1 dX5_read_52 (by decide) ?_
      refine lv_icmp_gt (tgt := 93) E.1 E.2.1 dX5_read_55 (by decide) (fun c76 => ?_) (fun c76 => ?_)
      · skip
        have b77 : iv 401 401 y69 := lt_r c76 (iv_lit (lo := 400) (hi := 400) 400 (by decide) (by decide)) b74 (by decide)
        exact RET G ⟨oo71, kk72, h75⟩ dX5_read_93
      · skip
        have b78 : iv 0 400 y69 := le_l (Int32.not_lt.mp c76) b74 (iv_lit (lo := 400) (hi := 400) 400 (by decide) (by decide)) (by decide)
        refine lv_aload_n E.1 E.2.1 dX5_read_58 rfl (lv_at hl 1 rfl) ?_
        refine t_get E G 5 0 (rfl : ro 5 = 5) (C := RX5) (T := TX5) (N := 9) rfl (by decide) (by decide) (by decide) mw_fl_5_12 (fvl_d rfl) dX5_read_59 ?_
        obtain ⟨qq79, eqq79⟩ : ∃ q : Nat, q = tP zz70 5 0 := ⟨_, rfl⟩
        have aqq79 : at_ 7 qq79 = true := by rw [eqq79]; exact oo71.p 5 0 (rfl : ro 5 = 5) (by decide)
        rw [← eqq79]
        refine t_get E G 7 2 (at_ro (i := 0) aqq79 (by decide) : ro qq79 = 7) (C := RX7) (T := TX7) (N := 7) rfl (by decide) (by decide) (by decide) mw_fl_5_54 (fvl_i rfl) dX5_read_62 ?_
        refine lv_topi (fun v80 e81 => ?_)
        refine lv_if_ne (tgt := 93) E.1 E.2.1 dX5_read_65 (by decide) (fun c82 => ?_) (fun c82 => ?_)
        · skip
          exact RET G ⟨oo71, kk72, h75⟩ dX5_read_93
        · skip
          have b83 : iv 0 0 v80 := iv_eq c82 (iv_lit (lo := 0) (hi := 0) 0 (by decide) (by decide))
          refine lv_aload_n E.1 E.2.1 dX5_read_68 rfl (lv_at hl 1 rfl) ?_
          refine t_get E G 5 6 (rfl : ro 5 = 5) (C := RX5) (T := TX5) (N := 9) rfl (by decide) (by decide) (by decide) mw_fl_5_35 (fvl_i rfl) dX5_read_69 ?_
          refine lv_topi (fun v84 e85 => ?_)
          refine lv_iconst (v := 4) E.1 E.2.1 dX5_read_72 (by decide) ?_
          refine lv_icmp_eq (tgt := 93) E.1 E.2.1 dX5_read_73 (by decide) (fun c86 => ?_) (fun c86 => ?_)
          · skip
            have b87 : iv 4 4 v84 := iv_eq c86 (iv_lit (lo := 4) (hi := 4) 4 (by decide) (by decide))
            exact RET G ⟨oo71, kk72, h75⟩ dX5_read_93
          · skip
            refine lv_aload_n E.1 E.2.1 dX5_read_76 rfl (lv_at hl 1 rfl) ?_
            refine t_get E G 5 0 (rfl : ro 5 = 5) (C := RX5) (T := TX5) (N := 9) rfl (by decide) (by decide) (by decide) mw_fl_5_12 (fvl_d rfl) dX5_read_77 ?_
            rw [eqq79.symm]
            refine t_vv E G hl (tp_readToken l D K ad zz70 oo71 qq79 aqq79) 7 (at_ro (i := 0) aqq79 (by decide) : ro qq79 = 7) (by decide) rfl rfl 0 rfl mw_code_X7_readToken mw_ini_7 mw_ml_5_57 mw_inst_X7_readToken mw_sel_X7_readToken hd_X7_readToken ⟨Nat.le_trans (by decide) hfr, Nat.le_trans (by decide) hlo⟩ rfl rfl rfl (Nat.le_of_ble_eq_true rfl) dX5_read_80 (fun zz89 H locs hp91 G => ?_)
            obtain ⟨oo92, kk93⟩ := hp91
            have kk94 : KC z zz89 := KC.tr kk72 (KT.c kk93)
            have h95 : tI zz89 0 5 = (tI z 0 5) := KF.i kk93 10 (rfl : ro 0 = 10) (by decide) h75
            have h96 : tI zz89 5 6 = v84 := KF.i kk93 5 (rfl : ro 5 = 5) (by decide) e85.symm
            have h97 : tP zz89 5 0 = qq79 := KF.p kk93 eqq79.symm
            refine lv_aload_n E.1 E.2.1 dX5_read_83 rfl (lv_at hl 1 rfl) ?_
            refine t_vv E G hl (rr_takeToken l D K ad zz89 oo92) 5 (rfl : ro 5 = 5) (by decide) rfl rfl 0 rfl mw_code_X5_takeToken mw_ini_5 mw_ml_5_60 mw_inst_X5_takeToken mw_sel_X5_takeToken hd_X5_takeToken ⟨Nat.le_trans (by decide) hfr, Nat.le_trans (by decide) hlo⟩ rfl rfl rfl (Nat.le_of_ble_eq_true rfl) dX5_read_84 (fun zz98 H locs hp100 G => ?_)
            obtain ⟨oo101, kk102, h103⟩ := hp100
            have kk104 : KC z zz98 := KC.tr kk94 kk102
            obtain ⟨v105, e106⟩ : ∃ w : Int32, w = y69 + (1 : Int32) := ⟨_, rfl⟩
            refine lv_iinc (v := v105) (lv' := [(3, .int v105), (0, .ref (ad 5)), (1, .ref (ad p0)), (2, .ref (ad p1))]) E.1 E.2.1 dX5_read_87 hl (k := 0) rfl (by rw [e106]; rfl) (by decide) rfl (fun ls hl => ?_)
            have b107 : iv 1 401 v105 := by rw [e106]; exact iv_add b78 (iv_lit (lo := 1) (hi := 1) 1 (by decide) (by decide)) (by decide) (by decide) (by decide) (by decide)
            have t108 : v105.toInt = y69.toInt + 1 := by rw [e106]; exact ti_addc 1 (by decide) b78 (by decide) (by decide)
            refine lv_goto (tgt := 51) E.1 E.2.1 dX5_read_90 (by decide) ?_
            exact ih51 zz98 v105 H locs ls G oo101 kk104 (iv_mono b107 (by decide) (by decide)) (h103.trans h95) (by have := t108; have := m73; omega) (lv_sub hl [0, 1, 2, 3] rfl)
  exact LOOP51 402 zz59 0 H locs ls G oo60 kk61 (iv_mono (iv_lit (lo := 0) (hi := 0) 0 (by decide) (by decide)) (by decide) (by decide)) h62 (by have := (iv_lit (lo := 0) (hi := 0) 0 (by decide) (by decide)).1; omega) (lv_sub hl [0, 1, 2, 3] rfl)
