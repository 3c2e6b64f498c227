theorem mw_code_X2_copyFrom : (Cond.code yX2_copyFrom cX2_copyFrom 2 none : Cond) ∈ cw := cw_of (List.mem_append_right _ (List.mem_append_right _ (List.mem_append_right _ (List.mem_append_right _ (List.mem_append_right _ (List.mem_append_left _ (List.mem_of_getElem? (i := 89) rfl))))))) (by decide +kernel)
theorem mw_fl_10_59 : (Cond.fieldLink RX10 59 "LureTown" "images" "[LLureTown$Moment;" : Cond) ∈ cw := cw_of (List.mem_append_right _ (List.mem_append_right _ (List.mem_append_left _ (List.mem_of_getElem? (i := 136) (by decide +kernel))))) (by decide +kernel)
theorem mw_fl_10_63 : (Cond.fieldLink RX10 63 "LureTown" "imagesMade" "I" : Cond) ∈ cw := cw_of (List.mem_append_right _ (List.mem_append_right _ (List.mem_append_left _ (List.mem_of_getElem? (i := 137) (by decide +kernel))))) (by decide +kernel)
theorem mw_ini_2 : (Cond.initialized RX2 : Cond) ∈ cw := cw_of (List.mem_append_right _ (List.mem_append_left _ (List.mem_of_getElem? (i := 8) (by decide +kernel)))) (by decide +kernel)
theorem mw_inst_X2_copyFrom : (Cond.instanceMethod yX2_copyFrom : Cond) ∈ cw := cw_of (List.mem_append_right _ (List.mem_append_right _ (List.mem_append_right _ (List.mem_append_right _ (List.mem_append_right _ (List.mem_append_left _ (List.mem_of_getElem? (i := 87) (by decide +kernel)))))))) (by decide +kernel)
theorem mw_ml_10_348 : (Cond.methodLink RX10 348 yX2_copyFrom : Cond) ∈ cw := cw_of (List.mem_append_right _ (List.mem_append_right _ (List.mem_append_right _ (List.mem_append_right _ (List.mem_append_right _ (List.mem_append_left _ (List.mem_of_getElem? (i := 86) (by decide +kernel)))))))) (by decide +kernel)
theorem mw_sel_X2_copyFrom : (Cond.selects RX2 yX2_copyFrom yX2_copyFrom : Cond) ∈ cw := cw_of (List.mem_append_right _ (List.mem_append_right _ (List.mem_append_right _ (List.mem_append_right _ (List.mem_append_right _ (List.mem_append_left _ (List.mem_of_getElem? (i := 88) (by decide +kernel)))))))) (by decide +kernel)
theorem dX10_image_0 : decode cX10_image 0 = .ok (.iload_n 1, 1) := by decide +kernel
theorem dX10_image_1 : decode cX10_image 1 = .ok (.ifCond .lt 8, 3) := by decide +kernel
theorem dX10_image_4 : decode cX10_image 4 = .ok (.iload_n 1, 1) := by decide +kernel
theorem dX10_image_5 : decode cX10_image 5 = .ok (.iconst 4, 1) := by decide +kernel
theorem dX10_image_6 : decode cX10_image 6 = .ok (.if_icmp .lt 5, 3) := by decide +kernel
theorem dX10_image_11 : decode cX10_image 11 = .ok (.aload_n 0, 1) := by decide +kernel
theorem dX10_image_12 : decode cX10_image 12 = .ok (.getfield 59, 3) := by decide +kernel
theorem dX10_image_15 : decode cX10_image 15 = .ok (.iload_n 1, 1) := by decide +kernel
theorem dX10_image_16 : decode cX10_image 16 = .ok (.aaload, 1) := by decide +kernel
theorem dX10_image_17 : decode cX10_image 17 = .ok (.aload_n 0, 1) := by decide +kernel
theorem dX10_image_18 : decode cX10_image 18 = .ok (.getfield 55, 3) := by decide +kernel
theorem dX10_image_21 : decode cX10_image 21 = .ok (.invokevirtual 348, 3) := by decide +kernel
theorem dX10_image_24 : decode cX10_image 24 = .ok (.aload_n 0, 1) := by decide +kernel
theorem dX10_image_25 : decode cX10_image 25 = .ok (.dup, 1) := by decide +kernel
theorem dX10_image_26 : decode cX10_image 26 = .ok (.getfield 63, 3) := by decide +kernel
theorem dX10_image_29 : decode cX10_image 29 = .ok (.iconst 1, 1) := by decide +kernel
theorem dX10_image_30 : decode cX10_image 30 = .ok (.iload_n 1, 1) := by decide +kernel
theorem dX10_image_31 : decode cX10_image 31 = .ok (.ishl, 1) := by decide +kernel
theorem dX10_image_32 : decode cX10_image 32 = .ok (.ior, 1) := by decide +kernel
theorem dX10_image_33 : decode cX10_image 33 = .ok (.putfield 63, 3) := by decide +kernel
theorem dX10_image_36 : decode cX10_image 36 = .ok (.aload_n 0, 1) := by decide +kernel
theorem dX10_image_37 : decode cX10_image 37 = .ok (.getfield 55, 3) := by decide +kernel
theorem dX10_image_40 : decode cX10_image 40 = .ok (.getfield 121, 3) := by decide +kernel
theorem dX10_image_43 : decode cX10_image 43 = .ok (.getfield 201, 3) := by decide +kernel
theorem dX10_image_46 : decode cX10_image 46 = .ok (.ireturn, 1) := by decide +kernel
theorem hd_X2_copyFrom : yX2_copyFrom.cls ≠ "java/lang/invoke/MethodHandle" ∧ yX2_copyFrom.cls ≠ "java/lang/invoke/VarHandle" ∧ (parseMethodDescriptor yX2_copyFrom.desc).map (fun d => d.parameters.length) = some 1 := ⟨by decide +kernel, by decide +kernel, by decide +kernel⟩
set_option maxHeartbeats 4000000 in
set_option maxRecDepth 100000 in
theorem k_image (l : Launch) (D : va_G) (K : Nat → ClassId) (ad : Nat → Nat) (z : TS) (o : Ok z) (x1 : Int32) (bx1 : iv 0 3 x1) : cI l yX10_image cX10_image 2 .int ({ frames := 4, cells := 0, slots := 0, locals := 89 }) D K ad z [.ref (ad 0), .int x1] (fun r u => Ok u ∧ KXi z (81 + 1 + qst 38 * x1.toNatClampNeg) (tI z 56 4) (tI z 0 9 ||| ((1 : Int32) <<< (x1 &&& 31))) u) := by
  refine t_enterI (by decide) (Nat.le_of_ble_eq_true rfl) rfl rfl ?_
  intro p e s m args below meth c A R Q H locs ls E hfr hlo RET G hl
  have E : mE p s m meth c cX10_image args 2 RX10 D K A := E
  have hl : lv_has ls 2 [(0, .ref (ad 0)), (1, .int x1)] := hl
  refine lv_iload_n E.1 E.2.1 dX10_image_0 rfl (lv_at hl 1 rfl) ?_
  refine lv_if_lt (tgt := 9) E.1 E.2.1 dX10_image_1 (by decide) (fun h => absurd h (ivnlt bx1 (iv_lit (lo := 0) (hi := 0) 0 (by decide) (by decide)) (by decide))) (fun _ => ?_)
  refine lv_iload_n E.1 E.2.1 dX10_image_4 rfl (lv_at hl 1 rfl) ?_
  refine lv_iconst (v := 4) E.1 E.2.1 dX10_image_5 (by decide) ?_
  refine lv_icmp_lt (tgt := 11) E.1 E.2.1 dX10_image_6 (by decide) (fun _ => ?_) (fun h => absurd (ivlt bx1 (iv_lit (lo := 4) (hi := 4) 4 (by decide) (by decide)) (by decide)) h)
  refine lv_aload_n E.1 E.2.1 dX10_image_11 rfl (lv_at hl 0 rfl) ?_
  refine t_get E G 10 8 (rfl : ro 0 = 10) (C := RX10) (T := TX10) (N := 17) rfl (by decide) (by decide) (by decide) mw_fl_10_59 (v := .ref (ad 81)) (fvl_o (n := 81) rfl) dX10_image_12 ?_
  refine lv_iload_n E.1 E.2.1 dX10_image_15 rfl (lv_at hl 1 rfl) ?_
  refine t_aald E G 38 (rfl : ro 81 = 38) (by decide) (by decide) (t0 := 5) rfl (by decide) (n := 4) rfl rfl (iv_vp bx1 (by decide) (by decide)) dX10_image_16 ?_
  obtain ⟨qq1, eqq1⟩ : ∃ q : Nat, q = 81 + 1 + qst 38 * (x1 : Int32).toNatClampNeg := ⟨_, rfl⟩
  have aqq1 : at_ 2 qq1 = true := by rw [eqq1]; exact images_at _ (clamp_lt bx1 (by decide) (by decide))
  rw [← eqq1]
  refine lv_aload_n E.1 E.2.1 dX10_image_17 rfl (lv_at hl 0 rfl) ?_
  refine t_get E G 10 7 (rfl : ro 0 = 10) (C := RX10) (T := TX10) (N := 17) rfl (by decide) (by decide) (by decide) mw_fl_10_55 (v := .ref (ad 56)) (fvl_o (n := 56) rfl) dX10_image_18 ?_
  refine t_vv E G hl (m_copy l D K ad z o qq1 aqq1 56 (by decide : at_ 2 56 = true)) 2 (at_ro (i := 0) aqq1 (by decide) : ro qq1 = 2) (by decide) rfl rfl 1 rfl mw_code_X2_copyFrom mw_ini_2 mw_ml_10_348 mw_inst_X2_copyFrom mw_sel_X2_copyFrom hd_X2_copyFrom ⟨Nat.le_trans (by decide) hfr, Nat.le_trans (by decide) hlo⟩ rfl rfl rfl (Nat.le_of_ble_eq_true rfl) dX10_image_21 (fun zz2 H locs hp4 G => ?_)
  obtain ⟨oo5, kx6⟩ := hp4
  refine lv_aload_n E.1 E.2.1 dX10_image_24 rfl (lv_at hl 0 rfl) ?_
  refine lv_dup E.1 E.2.1 dX10_image_25 rfl ?_
  refine t_get E G 10 9 (rfl : ro 0 = 10) (C := RX10) (T := TX10) (N := 17) rfl (by decide) (by decide) (by decide) mw_fl_10_63 (fvl_i rfl) dX10_image_26 ?_
  refine lv_topi (fun v7 e8 => ?_)
  refine lv_iconst (v := 1) E.1 E.2.1 dX10_image_29 (by decide) ?_
  refine lv_iload_n E.1 E.2.1 dX10_image_30 rfl (lv_at hl 1 rfl) ?_
  refine lv_ishl E.1 E.2.1 dX10_image_31 ?_
  refine lv_topi (fun v9 e10 => ?_)
  have b11 : iv 1 256 v9 := by rw [e10]; exact iv_shl8 (iv_mono bx1 (by decide) (by decide))
  refine lv_ior E.1 E.2.1 dX10_image_32 ?_
  refine lv_topi (fun v12 e13 => ?_)
  refine t_puti E G 10 9 (rfl : ro 0 = 10) (C := RX10) (T := TX10) (N := 17) rfl (by decide) (by decide) (by decide) rfl rfl mw_fl_10_63 rfl dX10_image_33 (fun H locs G => ?_)
  obtain ⟨zz14, G, oo15, ki16⟩ : ∃ u : TS, mG D A s H locs (wd K ad u) ∧ Ok u ∧ KXi z qq1 (tI z 56 4) v12 u := ⟨_, G, ok_i oo5 10 (rfl : ro 0 = 10) (iv_full _) (by decide), KXi.of kx6 (at_ro (i := 0) aqq1 (by decide) : ro qq1 = 2)⟩
  refine lv_aload_n E.1 E.2.1 dX10_image_36 rfl (lv_at hl 0 rfl) ?_
  refine t_get E G 10 7 (rfl : ro 0 = 10) (C := RX10) (T := TX10) (N := 17) rfl (by decide) (by decide) (by decide) mw_fl_10_55 (v := .ref (ad 56)) (fvl_o (n := 56) rfl) dX10_image_37 ?_
  refine t_get E G 2 1 (rfl : ro 56 = 2) (C := RX2) (T := TX2) (N := 5) rfl (by decide) (by decide) (by decide) mw_fl_10_121 (v := .ref (ad 70)) (fvl_o (n := 14) rfl) dX10_image_40 ?_
  refine t_get E G 6 7 (rfl : ro 70 = 6) (C := RX6) (T := TX6) (N := 8) rfl (by decide) (by decide) (by decide) mw_fl_10_201 (fvl_i rfl) dX10_image_43 ?_
  refine lv_topi (fun v17 e18 => ?_)
  exact RET G ⟨oo15, by rw [← eqq1, ← kx6.1 0 9 rfl (fun q => by cases q.2), ← e8, ← e10, ← e13]; exact ki16⟩ rfl dX10_image_46
