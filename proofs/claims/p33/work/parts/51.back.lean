theorem mw_code_X0_forget : (Cond.code yX0_forget cX0_forget 1 none : Cond) ∈ cw := cw_of (List.mem_append_right _ (List.mem_append_right _ (List.mem_append_right _ (List.mem_append_left _ (List.mem_of_getElem? (i := 176) rfl))))) (by decide +kernel)
theorem mw_inst_X0_forget : (Cond.instanceMethod yX0_forget : Cond) ∈ cw := cw_of (List.mem_append_right _ (List.mem_append_right _ (List.mem_append_right _ (List.mem_append_left _ (List.mem_of_getElem? (i := 174) (by decide +kernel)))))) (by decide +kernel)
theorem mw_ml_10_137 : (Cond.methodLink RX10 137 yX0_forget : Cond) ∈ cw := cw_of (List.mem_append_right _ (List.mem_append_right _ (List.mem_append_right _ (List.mem_append_left _ (List.mem_of_getElem? (i := 173) (by decide +kernel)))))) (by decide +kernel)
theorem mw_sel_X0_forget : (Cond.selects RX0 yX0_forget yX0_forget : Cond) ∈ cw := cw_of (List.mem_append_right _ (List.mem_append_right _ (List.mem_append_right _ (List.mem_append_left _ (List.mem_of_getElem? (i := 175) (by decide +kernel)))))) (by decide +kernel)
theorem dX10_back_0 : decode cX10_back 0 = .ok (.iload_n 1, 1) := by decide +kernel
theorem dX10_back_1 : decode cX10_back 1 = .ok (.ifCond .lt 19, 3) := by decide +kernel
theorem dX10_back_4 : decode cX10_back 4 = .ok (.iload_n 1, 1) := by decide +kernel
theorem dX10_back_5 : decode cX10_back 5 = .ok (.iconst 4, 1) := by decide +kernel
theorem dX10_back_6 : decode cX10_back 6 = .ok (.if_icmp .ge 14, 3) := by decide +kernel
theorem dX10_back_9 : decode cX10_back 9 = .ok (.aload_n 0, 1) := by decide +kernel
theorem dX10_back_10 : decode cX10_back 10 = .ok (.getfield 63, 3) := by decide +kernel
theorem dX10_back_13 : decode cX10_back 13 = .ok (.iload_n 1, 1) := by decide +kernel
theorem dX10_back_14 : decode cX10_back 14 = .ok (.ishr, 1) := by decide +kernel
theorem dX10_back_15 : decode cX10_back 15 = .ok (.iconst 1, 1) := by decide +kernel
theorem dX10_back_16 : decode cX10_back 16 = .ok (.iand, 1) := by decide +kernel
theorem dX10_back_17 : decode cX10_back 17 = .ok (.ifCond .ne 5, 3) := by decide +kernel
theorem dX10_back_20 : decode cX10_back 20 = .ok (.iconst (-1), 1) := by decide +kernel
theorem dX10_back_21 : decode cX10_back 21 = .ok (.ireturn, 1) := by decide +kernel
theorem dX10_back_22 : decode cX10_back 22 = .ok (.aload_n 0, 1) := by decide +kernel
theorem dX10_back_23 : decode cX10_back 23 = .ok (.getfield 55, 3) := by decide +kernel
theorem dX10_back_26 : decode cX10_back 26 = .ok (.aload_n 0, 1) := by decide +kernel
theorem dX10_back_27 : decode cX10_back 27 = .ok (.getfield 59, 3) := by decide +kernel
theorem dX10_back_30 : decode cX10_back 30 = .ok (.iload_n 1, 1) := by decide +kernel
theorem dX10_back_31 : decode cX10_back 31 = .ok (.aaload, 1) := by decide +kernel
theorem dX10_back_32 : decode cX10_back 32 = .ok (.invokevirtual 348, 3) := by decide +kernel
theorem dX10_back_35 : decode cX10_back 35 = .ok (.aload_n 0, 1) := by decide +kernel
theorem dX10_back_36 : decode cX10_back 36 = .ok (.getfield 69, 3) := by decide +kernel
theorem dX10_back_39 : decode cX10_back 39 = .ok (.invokevirtual 137, 3) := by decide +kernel
theorem dX10_back_42 : decode cX10_back 42 = .ok (.aload_n 0, 1) := by decide +kernel
theorem dX10_back_43 : decode cX10_back 43 = .ok (.getfield 55, 3) := by decide +kernel
theorem dX10_back_46 : decode cX10_back 46 = .ok (.getfield 121, 3) := by decide +kernel
theorem dX10_back_49 : decode cX10_back 49 = .ok (.getfield 201, 3) := by decide +kernel
theorem dX10_back_52 : decode cX10_back 52 = .ok (.ireturn, 1) := by decide +kernel
theorem dX10_image_9 : decode cX10_image 9 = .ok (.iconst (-1), 1) := by decide +kernel
theorem dX10_image_10 : decode cX10_image 10 = .ok (.ireturn, 1) := by decide +kernel
theorem hd_X0_forget : yX0_forget.cls ≠ "java/lang/invoke/MethodHandle" ∧ yX0_forget.cls ≠ "java/lang/invoke/VarHandle" ∧ (parseMethodDescriptor yX0_forget.desc).map (fun d => d.parameters.length) = some 0 := ⟨by decide +kernel, by decide +kernel, by decide +kernel⟩
set_option maxHeartbeats 4000000 in
set_option maxRecDepth 100000 in
theorem k_back (l : Launch) (D : va_G) (K : Nat → ClassId) (ad : Nat → Nat) (z : TS) (o : Ok z) (x1 : Int32) (bx1 : iv 0 3 x1) (hb : ¬ ((tI z 0 9 >>> (x1 &&& 31)) &&& 1) = 0) : cI l yX10_back cX10_back 2 .int ({ frames := 4, cells := 0, slots := 0, locals := 89 }) D K ad z [.ref (ad 0), .int x1] (fun r u => Ok u ∧ KXp z 56 (tI z (81 + 1 + qst 38 * x1.toNatClampNeg) 4) u) := by
  refine t_enterI (by decide) (Nat.le_of_ble_eq_true rfl) rfl rfl ?_
  intro p e s m args below meth c A R Q H locs ls E hfr hlo RET G hl
  have E : mE p s m meth c cX10_back args 2 RX10 D K A := E
  have hl : lv_has ls 2 [(0, .ref (ad 0)), (1, .int x1)] := hl
  refine lv_iload_n E.1 E.2.1 dX10_back_0 rfl (lv_at hl 1 rfl) ?_
  refine lv_if_lt (tgt := 20) E.1 E.2.1 dX10_back_1 (by decide) (fun h => absurd h (ivnlt bx1 (iv_lit (lo := 0) (hi := 0) 0 (by decide) (by decide)) (by decide))) (fun _ => ?_)
  refine lv_iload_n E.1 E.2.1 dX10_back_4 rfl (lv_at hl 1 rfl) ?_
  refine lv_iconst (v := 4) E.1 E.2.1 dX10_back_5 (by decide) ?_
  refine lv_icmp_ge (tgt := 20) E.1 E.2.1 dX10_back_6 (by decide) (fun h => absurd h (ivnle (iv_lit (lo := 4) (hi := 4) 4 (by decide) (by decide)) bx1 (by decide))) (fun _ => ?_)
  refine lv_aload_n E.1 E.2.1 dX10_back_9 rfl (lv_at hl 0 rfl) ?_
  refine t_get E G 10 9 (rfl : ro 0 = 10) (C := RX10) (T := TX10) (N := 17) rfl (by decide) (by decide) (by decide) mw_fl_10_63 (fvl_i rfl) dX10_back_10 ?_
  refine lv_topi (fun v1 e2 => ?_)
  refine lv_iload_n E.1 E.2.1 dX10_back_13 rfl (lv_at hl 1 rfl) ?_
  refine lv_ishr E.1 E.2.1 dX10_back_14 ?_
  refine lv_topi (fun v3 e4 => ?_)
  refine lv_iconst (v := 1) E.1 E.2.1 dX10_back_15 (by decide) ?_
  refine lv_iand E.1 E.2.1 dX10_back_16 ?_
  refine lv_topi (fun v5 e6 => ?_)
  have b7 : iv 0 1 v5 := by rw [e6]; exact iv_and (iv_lit (lo := 1) (hi := 1) 1 (by decide) (by decide)) (by decide)
  refine lv_if_ne (tgt := 22) E.1 E.2.1 dX10_back_17 (by decide) (fun _ => ?_) (fun h => absurd h (fun q => hb (by rw [← e2, ← e4, ← e6]; exact q)))
  refine lv_aload_n E.1 E.2.1 dX10_back_22 rfl (lv_at hl 0 rfl) ?_
  refine t_get E G 10 7 (rfl : ro 0 = 10) (C := RX10) (T := TX10) (N := 17) rfl (by decide) (by decide) (by decide) mw_fl_10_55 (v := .ref (ad 56)) (fvl_o (n := 56) rfl) dX10_back_23 ?_
  refine lv_aload_n E.1 E.2.1 dX10_back_26 rfl (lv_at hl 0 rfl) ?_
  refine t_get E G 10 8 (rfl : ro 0 = 10) (C := RX10) (T := TX10) (N := 17) rfl (by decide) (by decide) (by decide) mw_fl_10_59 (v := .ref (ad 81)) (fvl_o (n := 81) rfl) dX10_back_27 ?_
  refine lv_iload_n E.1 E.2.1 dX10_back_30 rfl (lv_at hl 1 rfl) ?_
  refine t_aald E G 38 (rfl : ro 81 = 38) (by decide) (by decide) (t0 := 5) rfl (by decide) (n := 4) rfl rfl (iv_vp bx1 (by decide) (by decide)) dX10_back_31 ?_
  obtain ⟨qq8, eqq8⟩ : ∃ q : Nat, q = 81 + 1 + qst 38 * (x1 : Int32).toNatClampNeg := ⟨_, rfl⟩
  have aqq8 : at_ 2 qq8 = true := by rw [eqq8]; exact images_at _ (clamp_lt bx1 (by decide) (by decide))
  rw [← eqq8]
  refine t_vv E G hl (m_copy l D K ad z o 56 (by decide : at_ 2 56 = true) qq8 aqq8) 2 (rfl : ro 56 = 2) (by decide) rfl rfl 1 rfl mw_code_X2_copyFrom mw_ini_2 mw_ml_10_348 mw_inst_X2_copyFrom mw_sel_X2_copyFrom hd_X2_copyFrom ⟨Nat.le_trans (by decide) hfr, Nat.le_trans (by decide) hlo⟩ rfl rfl rfl (Nat.le_of_ble_eq_true rfl) dX10_back_32 (fun zz9 H locs hp11 G => ?_)
  obtain ⟨oo12, kx13⟩ := hp11
  refine lv_aload_n E.1 E.2.1 dX10_back_35 rfl (lv_at hl 0 rfl) ?_
  refine t_get E G 10 10 (rfl : ro 0 = 10) (C := RX10) (T := TX10) (N := 17) rfl (by decide) (by decide) (by decide) mw_fl_10_69 (v := .ref (ad 182)) (fvl_o (n := 182) rfl) dX10_back_36 ?_
  refine t_vv E G hl (a_forget l D K ad zz9 oo12) 0 (rfl : ro 182 = 0) (by decide) rfl rfl 0 rfl mw_code_X0_forget mw_ini_0 mw_ml_10_137 mw_inst_X0_forget mw_sel_X0_forget hd_X0_forget ⟨Nat.le_trans (by decide) hfr, Nat.le_trans (by decide) hlo⟩ rfl rfl rfl (Nat.le_of_ble_eq_true rfl) dX10_back_39 (fun zz14 H locs hp16 G => ?_)
  obtain ⟨oo17, kk18⟩ := hp16
  have kx20 := KXp.c (rfl : ro 56 = 2) kx13 kk18
  refine lv_aload_n E.1 E.2.1 dX10_back_42 rfl (lv_at hl 0 rfl) ?_
  refine t_get E G 10 7 (rfl : ro 0 = 10) (C := RX10) (T := TX10) (N := 17) rfl (by decide) (by decide) (by decide) mw_fl_10_55 (v := .ref (ad 56)) (fvl_o (n := 56) rfl) dX10_back_43 ?_
  refine t_get E G 2 1 (rfl : ro 56 = 2) (C := RX2) (T := TX2) (N := 5) rfl (by decide) (by decide) (by decide) mw_fl_10_121 (v := .ref (ad 70)) (fvl_o (n := 14) rfl) dX10_back_46 ?_
  refine t_get E G 6 7 (rfl : ro 70 = 6) (C := RX6) (T := TX6) (N := 8) rfl (by decide) (by decide) (by decide) mw_fl_10_201 (fvl_i rfl) dX10_back_49 ?_
  refine lv_topi (fun v21 e22 => ?_)
  exact RET G ⟨oo17, by rw [← eqq8]; exact kx20⟩ rfl dX10_back_52
set_option maxHeartbeats 4000000 in
set_option maxRecDepth 100000 in
theorem k_back_no (l : Launch) (D : va_G) (K : Nat → ClassId) (ad : Nat → Nat) (z : TS) (o : Ok z) (x1 : Int32) (bx1 : iv 0 3 x1) (hb : ((tI z 0 9 >>> (x1 &&& 31)) &&& 1) = 0) : cI l yX10_back cX10_back 2 .int ({ frames := 0, cells := 0, slots := 0, locals := 0 }) D K ad z [.ref (ad 0), .int x1] (fun r u => u = z) := by
  refine t_enterI (by decide) (Nat.le_of_ble_eq_true rfl) rfl rfl ?_
  intro p e s m args below meth c A R Q H locs ls E hfr hlo RET G hl
  have E : mE p s m meth c cX10_back args 2 RX10 D K A := E
  have hl : lv_has ls 2 [(0, .ref (ad 0)), (1, .int x1)] := hl
  refine lv_iload_n E.1 E.2.1 dX10_back_0 rfl (lv_at hl 1 rfl) ?_
  refine lv_if_lt (tgt := 20) E.1 E.2.1 dX10_back_1 (by decide) (fun h => absurd h (ivnlt bx1 (iv_lit (lo := 0) (hi := 0) 0 (by decide) (by decide)) (by decide))) (fun _ => ?_)
  refine lv_iload_n E.1 E.2.1 dX10_back_4 rfl (lv_at hl 1 rfl) ?_
  refine lv_iconst (v := 4) E.1 E.2.1 dX10_back_5 (by decide) ?_
  refine lv_icmp_ge (tgt := 20) E.1 E.2.1 dX10_back_6 (by decide) (fun h => absurd h (ivnle (iv_lit (lo := 4) (hi := 4) 4 (by decide) (by decide)) bx1 (by decide))) (fun _ => ?_)
  refine lv_aload_n E.1 E.2.1 dX10_back_9 rfl (lv_at hl 0 rfl) ?_
  refine t_get E G 10 9 (rfl : ro 0 = 10) (C := RX10) (T := TX10) (N := 17) rfl (by decide) (by decide) (by decide) mw_fl_10_63 (fvl_i rfl) dX10_back_10 ?_
  refine lv_topi (fun v1 e2 => ?_)
  refine lv_iload_n E.1 E.2.1 dX10_back_13 rfl (lv_at hl 1 rfl) ?_
  refine lv_ishr E.1 E.2.1 dX10_back_14 ?_
  refine lv_topi (fun v3 e4 => ?_)
  refine lv_iconst (v := 1) E.1 E.2.1 dX10_back_15 (by decide) ?_
  refine lv_iand E.1 E.2.1 dX10_back_16 ?_
  refine lv_topi (fun v5 e6 => ?_)
  have b7 : iv 0 1 v5 := by rw [e6]; exact iv_and (iv_lit (lo := 1) (hi := 1) 1 (by decide) (by decide)) (by decide)
  refine lv_if_ne (tgt := 22) E.1 E.2.1 dX10_back_17 (by decide) (fun h => absurd (by rw [e6, e4, e2]; exact hb) h) (fun _ => ?_)
  refine lv_iconst (v := (-1)) E.1 E.2.1 dX10_back_20 (by decide) ?_
  exact RET G rfl rfl dX10_back_21
set_option maxHeartbeats 4000000 in
set_option maxRecDepth 100000 in
theorem k_image_lo (l : Launch) (D : va_G) (K : Nat → ClassId) (ad : Nat → Nat) (z : TS) (o : Ok z) (x1 : Int32) (bx1 : iv (-2147483648) (-1) x1) : cI l yX10_image cX10_image 2 .int ({ frames := 0, cells := 0, slots := 0, locals := 0 }) D K ad z [.ref (ad 0), .int x1] (fun r u => u = z) := by
  refine t_enterI (by decide) (Nat.le_of_ble_eq_true rfl) rfl rfl ?_
  intro p e s m args below meth c A R Q H locs ls E hfr hlo RET G hl
  have E : mE p s m meth c cX10_image args 2 RX10 D K A := E
  have hl : lv_has ls 2 [(0, .ref (ad 0)), (1, .int x1)] := hl
  refine lv_iload_n E.1 E.2.1 dX10_image_0 rfl (lv_at hl 1 rfl) ?_
  refine lv_if_lt (tgt := 9) E.1 E.2.1 dX10_image_1 (by decide) (fun _ => ?_) (fun h => absurd (ivlt bx1 (iv_lit (lo := 0) (hi := 0) 0 (by decide) (by decide)) (by decide)) h)
  refine lv_iconst (v := (-1)) E.1 E.2.1 dX10_image_9 (by decide) ?_
  exact RET G rfl rfl dX10_image_10
set_option maxHeartbeats 4000000 in
set_option maxRecDepth 100000 in
theorem k_image_hi (l : Launch) (D : va_G) (K : Nat → ClassId) (ad : Nat → Nat) (z : TS) (o : Ok z) (x1 : Int32) (bx1 : iv 4 2147483647 x1) : cI l yX10_image cX10_image 2 .int ({ frames := 0, cells := 0, slots := 0, locals := 0 }) D K ad z [.ref (ad 0), .int x1] (fun r u => u = z) := by
  refine t_enterI (by decide) (Nat.le_of_ble_eq_true rfl) rfl rfl ?_
  intro p e s m args below meth c A R Q H locs ls E hfr hlo RET G hl
  have E : mE p s m meth c cX10_image args 2 RX10 D K A := E
  have hl : lv_has ls 2 [(0, .ref (ad 0)), (1, .int x1)] := hl
  refine lv_iload_n E.1 E.2.1 dX10_image_0 rfl (lv_at hl 1 rfl) ?_
  refine lv_if_lt (tgt := 9) E.1 E.2.1 dX10_image_1 (by decide) (fun h => absurd h (ivnlt bx1 (iv_lit (lo := 0) (hi := 0) 0 (by decide) (by decide)) (by decide))) (fun _ => ?_)
  refine lv_iload_n E.1 E.2.1 dX10_image_4 rfl (lv_at hl 1 rfl) ?_
  refine lv_iconst (v := 4) E.1 E.2.1 dX10_image_5 (by decide) ?_
  refine lv_icmp_lt (tgt := 11) E.1 E.2.1 dX10_image_6 (by decide) (fun h => absurd h (ivnlt bx1 (iv_lit (lo := 4) (hi := 4) 4 (by decide) (by decide)) (by decide))) (fun _ => ?_)
  refine lv_iconst (v := (-1)) E.1 E.2.1 dX10_image_9 (by decide) ?_
  exact RET G rfl rfl dX10_image_10
set_option maxHeartbeats 4000000 in
set_option maxRecDepth 100000 in
theorem k_back_lo (l : Launch) (D : va_G) (K : Nat → ClassId) (ad : Nat → Nat) (z : TS) (o : Ok z) (x1 : Int32) (bx1 : iv (-2147483648) (-1) x1) : cI l yX10_back cX10_back 2 .int ({ frames := 0, cells := 0, slots := 0, locals := 0 }) D K ad z [.ref (ad 0), .int x1] (fun r u => u = z) := by
  refine t_enterI (by decide) (Nat.le_of_ble_eq_true rfl) rfl rfl ?_
  intro p e s m args below meth c A R Q H locs ls E hfr hlo RET G hl
  have E : mE p s m meth c cX10_back args 2 RX10 D K A := E
  have hl : lv_has ls 2 [(0, .ref (ad 0)), (1, .int x1)] := hl
  refine lv_iload_n E.1 E.2.1 dX10_back_0 rfl (lv_at hl 1 rfl) ?_
  refine lv_if_lt (tgt := 20) E.1 E.2.1 dX10_back_1 (by decide) (fun _ => ?_) (fun h => absurd (ivlt bx1 (iv_lit (lo := 0) (hi := 0) 0 (by decide) (by decide)) (by decide)) h)
  refine lv_iconst (v := (-1)) E.1 E.2.1 dX10_back_20 (by decide) ?_
  exact RET G rfl rfl dX10_back_21
set_option maxHeartbeats 4000000 in
set_option maxRecDepth 100000 in
theorem k_back_hi (l : Launch) (D : va_G) (K : Nat → ClassId) (ad : Nat → Nat) (z : TS) (o : Ok z) (x1 : Int32) (bx1 : iv 4 2147483647 x1) : cI l yX10_back cX10_back 2 .int ({ frames := 0, cells := 0, slots := 0, locals := 0 }) D K ad z [.ref (ad 0), .int x1] (fun r u => u = z) := by
  refine t_enterI (by decide) (Nat.le_of_ble_eq_true rfl) rfl rfl ?_
  intro p e s m args below meth c A R Q H locs ls E hfr hlo RET G hl
  have E : mE p s m meth c cX10_back args 2 RX10 D K A := E
  have hl : lv_has ls 2 [(0, .ref (ad 0)), (1, .int x1)] := hl
  refine lv_iload_n E.1 E.2.1 dX10_back_0 rfl (lv_at hl 1 rfl) ?_
  refine lv_if_lt (tgt := 20) E.1 E.2.1 dX10_back_1 (by decide) (fun h => absurd h (ivnlt bx1 (iv_lit (lo := 0) (hi := 0) 0 (by decide) (by decide)) (by decide))) (fun _ => ?_)
  refine lv_iload_n E.1 E.2.1 dX10_back_4 rfl (lv_at hl 1 rfl) ?_
  refine lv_iconst (v := 4) E.1 E.2.1 dX10_back_5 (by decide) ?_
  refine lv_icmp_ge (tgt := 20) E.1 E.2.1 dX10_back_6 (by decide) (fun _ => ?_) (fun h => absurd (ivle (iv_lit (lo := 4) (hi := 4) 4 (by decide) (by decide)) bx1 (by decide)) h)
  refine lv_iconst (v := (-1)) E.1 E.2.1 dX10_back_20 (by decide) ?_
  exact RET G rfl rfl dX10_back_21
