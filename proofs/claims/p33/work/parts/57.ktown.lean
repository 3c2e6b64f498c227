theorem mw_code_X9_read : (Cond.code yX9_read cX9_read 5 none : Cond) ∈ cw := cw_of (List.mem_append_right _ (List.mem_append_right _ (List.mem_append_left _ (List.mem_of_getElem? (i := 199) rfl)))) (by decide +kernel)
theorem mw_fl_10_19 : (Cond.fieldLink RX10 19 "LureTown" "townReader" "LLureTown$TownReader;" : Cond) ∈ cw := cw_of (List.mem_append_right _ (List.mem_append_right _ (List.mem_append_left _ (List.mem_of_getElem? (i := 129) (by decide +kernel))))) (by decide +kernel)
theorem mw_fl_10_33 : (Cond.fieldLink RX10 33 "LureTown" "draft" "LLureTown$Town;" : Cond) ∈ cw := cw_of (List.mem_append_right _ (List.mem_append_right _ (List.mem_append_left _ (List.mem_of_getElem? (i := 131) (by decide +kernel))))) (by decide +kernel)
theorem mw_inst_X9_read : (Cond.instanceMethod yX9_read : Cond) ∈ cw := cw_of (List.mem_append_right _ (List.mem_append_right _ (List.mem_append_left _ (List.mem_of_getElem? (i := 197) (by decide +kernel))))) (by decide +kernel)
theorem mw_ml_10_107 : (Cond.methodLink RX10 107 yX9_read : Cond) ∈ cw := cw_of (List.mem_append_right _ (List.mem_append_right _ (List.mem_append_left _ (List.mem_of_getElem? (i := 196) (by decide +kernel))))) (by decide +kernel)
theorem mw_ml_10_117 : (Cond.methodLink RX10 117 yX8_copyFrom : Cond) ∈ cw := cw_of (List.mem_append_right _ (List.mem_append_right _ (List.mem_append_right _ (List.mem_append_left _ (List.mem_of_getElem? (i := 160) (by decide +kernel)))))) (by decide +kernel)
theorem mw_sel_X9_read : (Cond.selects RX9 yX9_read yX9_read : Cond) ∈ cw := cw_of (List.mem_append_right _ (List.mem_append_right _ (List.mem_append_left _ (List.mem_of_getElem? (i := 198) (by decide +kernel))))) (by decide +kernel)
theorem dX10_town_0 : decode cX10_town 0 = .ok (.aload_n 0, 1) := by decide +kernel
theorem dX10_town_1 : decode cX10_town 1 = .ok (.getfield 19, 3) := by decide +kernel
theorem dX10_town_4 : decode cX10_town 4 = .ok (.aload_n 0, 1) := by decide +kernel
theorem dX10_town_5 : decode cX10_town 5 = .ok (.getfield 10, 3) := by decide +kernel
theorem dX10_town_8 : decode cX10_town 8 = .ok (.aload_n 0, 1) := by decide +kernel
theorem dX10_town_9 : decode cX10_town 9 = .ok (.getfield 33, 3) := by decide +kernel
theorem dX10_town_12 : decode cX10_town 12 = .ok (.invokevirtual 107, 3) := by decide +kernel
theorem dX10_town_15 : decode cX10_town 15 = .ok (.aload_n 0, 1) := by decide +kernel
theorem dX10_town_16 : decode cX10_town 16 = .ok (.getfield 10, 3) := by decide +kernel
theorem dX10_town_19 : decode cX10_town 19 = .ok (.getfield 111, 3) := by decide +kernel
theorem dX10_town_22 : decode cX10_town 22 = .ok (.ifCond .eq 14, 3) := by decide +kernel
theorem dX10_town_25 : decode cX10_town 25 = .ok (.bipush (-2), 2) := by decide +kernel
theorem dX10_town_27 : decode cX10_town 27 = .ok (.aload_n 0, 1) := by decide +kernel
theorem dX10_town_28 : decode cX10_town 28 = .ok (.getfield 10, 3) := by decide +kernel
theorem dX10_town_31 : decode cX10_town 31 = .ok (.getfield 111, 3) := by decide +kernel
theorem dX10_town_34 : decode cX10_town 34 = .ok (.isub, 1) := by decide +kernel
theorem dX10_town_35 : decode cX10_town 35 = .ok (.ireturn, 1) := by decide +kernel
theorem dX10_town_36 : decode cX10_town 36 = .ok (.aload_n 0, 1) := by decide +kernel
theorem dX10_town_37 : decode cX10_town 37 = .ok (.getfield 10, 3) := by decide +kernel
theorem dX10_town_40 : decode cX10_town 40 = .ok (.iconst 0, 1) := by decide +kernel
theorem dX10_town_41 : decode cX10_town 41 = .ok (.putfield 100, 3) := by decide +kernel
theorem dX10_town_44 : decode cX10_town 44 = .ok (.aload_n 0, 1) := by decide +kernel
theorem dX10_town_45 : decode cX10_town 45 = .ok (.getfield 55, 3) := by decide +kernel
theorem dX10_town_48 : decode cX10_town 48 = .ok (.getfield 114, 3) := by decide +kernel
theorem dX10_town_51 : decode cX10_town 51 = .ok (.aload_n 0, 1) := by decide +kernel
theorem dX10_town_52 : decode cX10_town 52 = .ok (.getfield 33, 3) := by decide +kernel
theorem dX10_town_55 : decode cX10_town 55 = .ok (.invokevirtual 117, 3) := by decide +kernel
theorem dX10_town_58 : decode cX10_town 58 = .ok (.aload_n 0, 1) := by decide +kernel
theorem dX10_town_59 : decode cX10_town 59 = .ok (.getfield 55, 3) := by decide +kernel
theorem dX10_town_62 : decode cX10_town 62 = .ok (.getfield 121, 3) := by decide +kernel
theorem dX10_town_65 : decode cX10_town 65 = .ok (.aload_n 0, 1) := by decide +kernel
theorem dX10_town_66 : decode cX10_town 66 = .ok (.getfield 33, 3) := by decide +kernel
theorem dX10_town_69 : decode cX10_town 69 = .ok (.getfield 124, 3) := by decide +kernel
theorem dX10_town_72 : decode cX10_town 72 = .ok (.invokevirtual 127, 3) := by decide +kernel
theorem dX10_town_75 : decode cX10_town 75 = .ok (.aload_n 0, 1) := by decide +kernel
theorem dX10_town_76 : decode cX10_town 76 = .ok (.getfield 55, 3) := by decide +kernel
theorem dX10_town_79 : decode cX10_town 79 = .ok (.getfield 130, 3) := by decide +kernel
theorem dX10_town_82 : decode cX10_town 82 = .ok (.iconst 0, 1) := by decide +kernel
theorem dX10_town_83 : decode cX10_town 83 = .ok (.putfield 134, 3) := by decide +kernel
theorem dX10_town_86 : decode cX10_town 86 = .ok (.aload_n 0, 1) := by decide +kernel
theorem dX10_town_87 : decode cX10_town 87 = .ok (.getfield 69, 3) := by decide +kernel
theorem dX10_town_90 : decode cX10_town 90 = .ok (.invokevirtual 137, 3) := by decide +kernel
theorem dX10_town_93 : decode cX10_town 93 = .ok (.aload_n 0, 1) := by decide +kernel
theorem dX10_town_94 : decode cX10_town 94 = .ok (.getfield 55, 3) := by decide +kernel
theorem dX10_town_97 : decode cX10_town 97 = .ok (.getfield 114, 3) := by decide +kernel
theorem dX10_town_100 : decode cX10_town 100 = .ok (.getfield 140, 3) := by decide +kernel
theorem dX10_town_103 : decode cX10_town 103 = .ok (.ireturn, 1) := by decide +kernel
theorem hd_X9_read : yX9_read.cls ≠ "java/lang/invoke/MethodHandle" ∧ yX9_read.cls ≠ "java/lang/invoke/VarHandle" ∧ (parseMethodDescriptor yX9_read.desc).map (fun d => d.parameters.length) = some 2 := ⟨by decide +kernel, by decide +kernel, by decide +kernel⟩
set_option maxHeartbeats 4000000 in
set_option maxRecDepth 100000 in
theorem k_town (l : Launch) (D : va_G) (K : Nat → ClassId) (ad : Nat → Nat) (z : TS) (o : Ok z) : cI l yX10_town cX10_town 1 .int ({ frames := 10, cells := 0, slots := 0, locals := 221 }) D K ad z [.ref (ad 0)] (fun r u => Ok u ∧ KC z u) := by
  refine t_enterI (by decide) (Nat.le_of_ble_eq_true rfl) rfl rfl ?_
  intro p e s m args below meth c A R Q H locs ls E hfr hlo RET G hl
  have E : mE p s m meth c cX10_town args 1 RX10 D K A := E
  have hl : lv_has ls 1 [(0, .ref (ad 0))] := hl
  refine lv_aload_n E.1 E.2.1 dX10_town_0 rfl (lv_at hl 0 rfl) ?_
  refine t_get E G 10 1 (rfl : ro 0 = 10) (C := RX10) (T := TX10) (N := 17) rfl (by decide) (by decide) (by decide) mw_fl_10_19 (v := .ref (ad 3)) (fvl_o (n := 3) rfl) dX10_town_1 ?_
  refine lv_aload_n E.1 E.2.1 dX10_town_4 rfl (lv_at hl 0 rfl) ?_
  refine t_get E G 10 0 (rfl : ro 0 = 10) (C := RX10) (T := TX10) (N := 17) rfl (by decide) (by decide) (by decide) mw_fl_10_10 (v := .ref (ad 1)) (fvl_o (n := 1) rfl) dX10_town_5 ?_
  refine lv_aload_n E.1 E.2.1 dX10_town_8 rfl (lv_at hl 0 rfl) ?_
  refine t_get E G 10 3 (rfl : ro 0 = 10) (C := RX10) (T := TX10) (N := 17) rfl (by decide) (by decide) (by decide) mw_fl_10_33 (v := .ref (ad 7)) (fvl_o (n := 7) rfl) dX10_town_9 ?_
  refine t_vv E G hl (tr_read l D K ad z o 1 (by decide : at_ 7 1 = true) 7 (by decide : at_ 8 7 = true)) 9 (rfl : ro 3 = 9) (by decide) rfl rfl 2 rfl mw_code_X9_read mw_ini_9 mw_ml_10_107 mw_inst_X9_read mw_sel_X9_read hd_X9_read ⟨Nat.le_trans (by decide) hfr, Nat.le_trans (by decide) hlo⟩ rfl rfl rfl (Nat.le_of_ble_eq_true rfl) dX10_town_12 (fun zz1 H locs hp3 G => ?_)
  obtain ⟨oo4, kk5⟩ := hp3
  have kk6 : KC z zz1 := KC.tr KC.rf kk5
  refine lv_aload_n E.1 E.2.1 dX10_town_15 rfl (lv_at hl 0 rfl) ?_
  refine t_get E G 10 0 (rfl : ro 0 = 10) (C := RX10) (T := TX10) (N := 17) rfl (by decide) (by decide) (by decide) mw_fl_10_10 (v := .ref (ad 1)) (fvl_o (n := 1) rfl) dX10_town_16 ?_
  refine t_get E G 7 2 (rfl : ro 1 = 7) (C := RX7) (T := TX7) (N := 7) rfl (by decide) (by decide) (by decide) mw_fl_10_111 (fvl_i rfl) dX10_town_19 ?_
  refine lv_topi (fun v7 e8 => ?_)
  refine lv_if_eq (tgt := 36) E.1 E.2.1 dX10_town_22 (by decide) (fun c9 => ?_) (fun c9 => ?_)
  · skip
    have b10 : iv 0 0 v7 := iv_eq c9 (iv_lit (lo := 0) (hi := 0) 0 (by decide) (by decide))
    refine lv_aload_n E.1 E.2.1 dX10_town_36 rfl (lv_at hl 0 rfl) ?_
    refine t_get E G 10 0 (rfl : ro 0 = 10) (C := RX10) (T := TX10) (N := 17) rfl (by decide) (by decide) (by decide) mw_fl_10_10 (v := .ref (ad 1)) (fvl_o (n := 1) rfl) dX10_town_37 ?_
    refine lv_iconst (v := 0) E.1 E.2.1 dX10_town_40 (by decide) ?_
    refine t_puti E G 7 1 (rfl : ro 1 = 7) (C := RX7) (T := TX7) (N := 7) rfl (by decide) (by decide) (by decide) rfl rfl mw_fl_10_100 rfl dX10_town_41 (fun H locs G => ?_)
    obtain ⟨zz11, G, oo12, kk13, h14, h15⟩ : ∃ u : TS, mG D A s H locs (wd K ad u) ∧ Ok u ∧ KC z u ∧ tI u 1 2 = v7 ∧ tI u 1 1 = 0 := ⟨_, G, ok_i oo4 7 (rfl : ro 1 = 7) (iv_mono (iv_lit (lo := 0) (hi := 0) 0 (by decide) (by decide)) (by decide) (by decide)) (by decide), KC.tr kk6 (KC_i 7 (rfl : ro 1 = 7) (by decide)), (sI_k e8.symm (by decide)), sI_self⟩
    refine lv_aload_n E.1 E.2.1 dX10_town_44 rfl (lv_at hl 0 rfl) ?_
    refine t_get E G 10 7 (rfl : ro 0 = 10) (C := RX10) (T := TX10) (N := 17) rfl (by decide) (by decide) (by decide) mw_fl_10_55 (v := .ref (ad 56)) (fvl_o (n := 56) rfl) dX10_town_45 ?_
    refine t_get E G 2 0 (rfl : ro 56 = 2) (C := RX2) (T := TX2) (N := 5) rfl (by decide) (by decide) (by decide) mw_fl_10_114 (v := .ref (ad 57)) (fvl_o (n := 1) rfl) dX10_town_48 ?_
    refine lv_aload_n E.1 E.2.1 dX10_town_51 rfl (lv_at hl 0 rfl) ?_
    refine t_get E G 10 3 (rfl : ro 0 = 10) (C := RX10) (T := TX10) (N := 17) rfl (by decide) (by decide) (by decide) mw_fl_10_33 (v := .ref (ad 7)) (fvl_o (n := 7) rfl) dX10_town_52 ?_
    refine t_vv E G hl (t_copy l D K ad zz11 oo12 57 (by decide : at_ 8 57 = true) 7 (by decide : at_ 8 7 = true)) 8 (rfl : ro 57 = 8) (by decide) rfl rfl 1 rfl mw_code_X8_copyFrom mw_ini_8 mw_ml_10_117 mw_inst_X8_copyFrom mw_sel_X8_copyFrom hd_X8_copyFrom ⟨Nat.le_trans (by decide) hfr, Nat.le_trans (by decide) hlo⟩ rfl rfl rfl (Nat.le_of_ble_eq_true rfl) dX10_town_55 (fun zz16 H locs hp18 G => ?_)
    obtain ⟨oo19, kk20⟩ := hp18
    have kk21 : KC z zz16 := KC.tr kk13 kk20
    refine lv_aload_n E.1 E.2.1 dX10_town_58 rfl (lv_at hl 0 rfl) ?_
    refine t_get E G 10 7 (rfl : ro 0 = 10) (C := RX10) (T := TX10) (N := 17) rfl (by decide) (by decide) (by decide) mw_fl_10_55 (v := .ref (ad 56)) (fvl_o (n := 56) rfl) dX10_town_59 ?_
    refine t_get E G 2 1 (rfl : ro 56 = 2) (C := RX2) (T := TX2) (N := 5) rfl (by decide) (by decide) (by decide) mw_fl_10_121 (v := .ref (ad 70)) (fvl_o (n := 14) rfl) dX10_town_62 ?_
    refine lv_aload_n E.1 E.2.1 dX10_town_65 rfl (lv_at hl 0 rfl) ?_
    refine t_get E G 10 3 (rfl : ro 0 = 10) (C := RX10) (T := TX10) (N := 17) rfl (by decide) (by decide) (by decide) mw_fl_10_33 (v := .ref (ad 7)) (fvl_o (n := 7) rfl) dX10_town_66 ?_
    refine t_get E G 8 8 (rfl : ro 7 = 8) (C := RX8) (T := TX8) (N := 10) rfl (by decide) (by decide) (by decide) mw_fl_10_124 (v := .ref (ad 12)) (fvl_o (n := 5) rfl) dX10_town_69 ?_
    refine t_vv E G hl (s_copy l D K ad zz16 oo19 70 (by decide : at_ 6 70 = true) 12 (by decide : at_ 6 12 = true)) 6 (rfl : ro 70 = 6) (by decide) rfl rfl 1 rfl mw_code_X6_copyFrom mw_ini_6 mw_ml_10_127 mw_inst_X6_copyFrom mw_sel_X6_copyFrom hd_X6_copyFrom ⟨Nat.le_trans (by decide) hfr, Nat.le_trans (by decide) hlo⟩ rfl rfl rfl (Nat.le_of_ble_eq_true rfl) dX10_town_72 (fun zz22 H locs hp24 G => ?_)
    obtain ⟨oo25, kk26⟩ := hp24
    have kk27 : KC z zz22 := KC.tr kk21 kk26
    refine lv_aload_n E.1 E.2.1 dX10_town_75 rfl (lv_at hl 0 rfl) ?_
    refine t_get E G 10 7 (rfl : ro 0 = 10) (C := RX10) (T := TX10) (N := 17) rfl (by decide) (by decide) (by decide) mw_fl_10_55 (v := .ref (ad 56)) (fvl_o (n := 56) rfl) dX10_town_76 ?_
    refine t_get E G 2 2 (rfl : ro 56 = 2) (C := RX2) (T := TX2) (N := 5) rfl (by decide) (by decide) (by decide) mw_fl_10_130 (v := .ref (ad 77)) (fvl_o (n := 21) rfl) dX10_town_79 ?_
    refine lv_iconst (v := 0) E.1 E.2.1 dX10_town_82 (by decide) ?_
    refine t_puti E G 3 0 (rfl : ro 77 = 3) (C := RX3) (T := TX3) (N := 4) rfl (by decide) (by decide) (by decide) rfl rfl mw_fl_10_134 rfl dX10_town_83 (fun H locs G => ?_)
    obtain ⟨zz28, G, oo29, kk30, h31⟩ : ∃ u : TS, mG D A s H locs (wd K ad u) ∧ Ok u ∧ KC z u ∧ tI u 77 0 = 0 := ⟨_, G, ok_i oo25 3 (rfl : ro 77 = 3) (iv_mono (iv_lit (lo := 0) (hi := 0) 0 (by decide) (by decide)) (by decide) (by decide)) (by decide), KC.tr kk27 (KC_i 3 (rfl : ro 77 = 3) (by decide)), sI_self⟩
    refine lv_aload_n E.1 E.2.1 dX10_town_86 rfl (lv_at hl 0 rfl) ?_
    refine t_get E G 10 10 (rfl : ro 0 = 10) (C := RX10) (T := TX10) (N := 17) rfl (by decide) (by decide) (by decide) mw_fl_10_69 (v := .ref (ad 182)) (fvl_o (n := 182) rfl) dX10_town_87 ?_
    refine t_vv E G hl (a_forget l D K ad zz28 oo29) 0 (rfl : ro 182 = 0) (by decide) rfl rfl 0 rfl mw_code_X0_forget mw_ini_0 mw_ml_10_137 mw_inst_X0_forget mw_sel_X0_forget hd_X0_forget ⟨Nat.le_trans (by decide) hfr, Nat.le_trans (by decide) hlo⟩ rfl rfl rfl (Nat.le_of_ble_eq_true rfl) dX10_town_90 (fun zz32 H locs hp34 G => ?_)
    obtain ⟨oo35, kk36⟩ := hp34
    have kk37 : KC z zz32 := KC.tr kk30 kk36
    refine lv_aload_n E.1 E.2.1 dX10_town_93 rfl (lv_at hl 0 rfl) ?_
    refine t_get E G 10 7 (rfl : ro 0 = 10) (C := RX10) (T := TX10) (N := 17) rfl (by decide) (by decide) (by decide) mw_fl_10_55 (v := .ref (ad 56)) (fvl_o (n := 56) rfl) dX10_town_94 ?_
    refine t_get E G 2 0 (rfl : ro 56 = 2) (C := RX2) (T := TX2) (N := 5) rfl (by decide) (by decide) (by decide) mw_fl_10_114 (v := .ref (ad 57)) (fvl_o (n := 1) rfl) dX10_town_97 ?_
    refine t_get E G 8 3 (rfl : ro 57 = 8) (C := RX8) (T := TX8) (N := 10) rfl (by decide) (by decide) (by decide) mw_fl_10_140 (fvl_i rfl) dX10_town_100 ?_
    refine lv_topi (fun v38 e39 => ?_)
    have b40 : iv 0 5 v38 := by rw [e39]; exact oo35.i 8 3 (rfl : ro 57 = 8)
    exact RET G ⟨oo35, kk37⟩ rfl dX10_town_103
  · skip
    refine lv_bipush (v := (-2)) E.1 E.2.1 dX10_town_25 (by decide) ?_
    refine lv_aload_n E.1 E.2.1 dX10_town_27 rfl (lv_at hl 0 rfl) ?_
    refine t_get E G 10 0 (rfl : ro 0 = 10) (C := RX10) (T := TX10) (N := 17) rfl (by decide) (by decide) (by decide) mw_fl_10_10 (v := .ref (ad 1)) (fvl_o (n := 1) rfl) dX10_town_28 ?_
    refine t_get E G 7 2 (rfl : ro 1 = 7) (C := RX7) (T := TX7) (N := 7) rfl (by decide) (by decide) (by decide) mw_fl_10_111 (fvl_i rfl) dX10_town_31 ?_
    refine m_ci v7 e8.symm ?_
    refine lv_isub E.1 E.2.1 dX10_town_34 ?_
    refine lv_topi (fun v41 e42 => ?_)
    exact RET G ⟨oo4, kk6⟩ rfl dX10_town_35
