theorem mw_fl_8_70 : (Cond.fieldLink RX8 70 "LureTown$State" "walkerCorner" "[I" : Cond) ∈ cw := cw_of (List.mem_append_right _ (List.mem_append_left _ (List.mem_of_getElem? (i := 89) (by decide +kernel)))) (by decide +kernel)
theorem mw_ml_8_66 : (Cond.methodLink RX8 66 yX6_setAgain : Cond) ∈ cw := cw_of (List.mem_append_right _ (List.mem_append_right _ (List.mem_append_right _ (List.mem_append_left _ (List.mem_of_getElem? (i := 140) (by decide +kernel)))))) (by decide +kernel)
theorem dX8_addLure_0 : decode cX8_addLure 0 = .ok (.aload_n 0, 1) := by decide +kernel
theorem dX8_addLure_1 : decode cX8_addLure 1 = .ok (.getfield 40, 3) := by decide +kernel
theorem dX8_addLure_4 : decode cX8_addLure 4 = .ok (.getfield 60, 3) := by decide +kernel
theorem dX8_addLure_7 : decode cX8_addLure 7 = .ok (.aload_n 0, 1) := by decide +kernel
theorem dX8_addLure_8 : decode cX8_addLure 8 = .ok (.getfield 18, 3) := by decide +kernel
theorem dX8_addLure_11 : decode cX8_addLure 11 = .ok (.iload_n 1, 1) := by decide +kernel
theorem dX8_addLure_12 : decode cX8_addLure 12 = .ok (.iastore, 1) := by decide +kernel
theorem dX8_addLure_13 : decode cX8_addLure 13 = .ok (.aload_n 0, 1) := by decide +kernel
theorem dX8_addLure_14 : decode cX8_addLure 14 = .ok (.getfield 40, 3) := by decide +kernel
theorem dX8_addLure_17 : decode cX8_addLure 17 = .ok (.getfield 63, 3) := by decide +kernel
theorem dX8_addLure_20 : decode cX8_addLure 20 = .ok (.aload_n 0, 1) := by decide +kernel
theorem dX8_addLure_21 : decode cX8_addLure 21 = .ok (.getfield 18, 3) := by decide +kernel
theorem dX8_addLure_24 : decode cX8_addLure 24 = .ok (.iload_n 2, 1) := by decide +kernel
theorem dX8_addLure_25 : decode cX8_addLure 25 = .ok (.iastore, 1) := by decide +kernel
theorem dX8_addLure_26 : decode cX8_addLure 26 = .ok (.aload_n 0, 1) := by decide +kernel
theorem dX8_addLure_27 : decode cX8_addLure 27 = .ok (.getfield 28, 3) := by decide +kernel
theorem dX8_addLure_30 : decode cX8_addLure 30 = .ok (.aload_n 0, 1) := by decide +kernel
theorem dX8_addLure_31 : decode cX8_addLure 31 = .ok (.getfield 18, 3) := by decide +kernel
theorem dX8_addLure_34 : decode cX8_addLure 34 = .ok (.iload_n 3, 1) := by decide +kernel
theorem dX8_addLure_35 : decode cX8_addLure 35 = .ok (.iastore, 1) := by decide +kernel
theorem dX8_addLure_36 : decode cX8_addLure 36 = .ok (.aload_n 0, 1) := by decide +kernel
theorem dX8_addLure_37 : decode cX8_addLure 37 = .ok (.getfield 31, 3) := by decide +kernel
theorem dX8_addLure_40 : decode cX8_addLure 40 = .ok (.aload_n 0, 1) := by decide +kernel
theorem dX8_addLure_41 : decode cX8_addLure 41 = .ok (.getfield 18, 3) := by decide +kernel
theorem dX8_addLure_44 : decode cX8_addLure 44 = .ok (.iload 4, 2) := by decide +kernel
theorem dX8_addLure_46 : decode cX8_addLure 46 = .ok (.iastore, 1) := by decide +kernel
theorem dX8_addLure_47 : decode cX8_addLure 47 = .ok (.aload_n 0, 1) := by decide +kernel
theorem dX8_addLure_48 : decode cX8_addLure 48 = .ok (.getfield 40, 3) := by decide +kernel
theorem dX8_addLure_51 : decode cX8_addLure 51 = .ok (.aload_n 0, 1) := by decide +kernel
theorem dX8_addLure_52 : decode cX8_addLure 52 = .ok (.getfield 18, 3) := by decide +kernel
theorem dX8_addLure_55 : decode cX8_addLure 55 = .ok (.invokevirtual 66, 3) := by decide +kernel
theorem dX8_addLure_58 : decode cX8_addLure 58 = .ok (.aload_n 0, 1) := by decide +kernel
theorem dX8_addLure_59 : decode cX8_addLure 59 = .ok (.dup, 1) := by decide +kernel
theorem dX8_addLure_60 : decode cX8_addLure 60 = .ok (.getfield 18, 3) := by decide +kernel
theorem dX8_addLure_63 : decode cX8_addLure 63 = .ok (.iconst 1, 1) := by decide +kernel
theorem dX8_addLure_64 : decode cX8_addLure 64 = .ok (.iadd, 1) := by decide +kernel
theorem dX8_addLure_65 : decode cX8_addLure 65 = .ok (.putfield 18, 3) := by decide +kernel
theorem dX8_addLure_68 : decode cX8_addLure 68 = .ok (.return_, 1) := by decide +kernel
theorem dX8_addWalker_0 : decode cX8_addWalker 0 = .ok (.aload_n 0, 1) := by decide +kernel
theorem dX8_addWalker_1 : decode cX8_addWalker 1 = .ok (.getfield 40, 3) := by decide +kernel
theorem dX8_addWalker_4 : decode cX8_addWalker 4 = .ok (.getfield 70, 3) := by decide +kernel
theorem dX8_addWalker_7 : decode cX8_addWalker 7 = .ok (.aload_n 0, 1) := by decide +kernel
theorem dX8_addWalker_8 : decode cX8_addWalker 8 = .ok (.getfield 21, 3) := by decide +kernel
theorem dX8_addWalker_11 : decode cX8_addWalker 11 = .ok (.iload_n 1, 1) := by decide +kernel
theorem dX8_addWalker_12 : decode cX8_addWalker 12 = .ok (.iastore, 1) := by decide +kernel
theorem dX8_addWalker_13 : decode cX8_addWalker 13 = .ok (.aload_n 0, 1) := by decide +kernel
theorem dX8_addWalker_14 : decode cX8_addWalker 14 = .ok (.getfield 40, 3) := by decide +kernel
theorem dX8_addWalker_17 : decode cX8_addWalker 17 = .ok (.getfield 73, 3) := by decide +kernel
theorem dX8_addWalker_20 : decode cX8_addWalker 20 = .ok (.aload_n 0, 1) := by decide +kernel
theorem dX8_addWalker_21 : decode cX8_addWalker 21 = .ok (.getfield 21, 3) := by decide +kernel
theorem dX8_addWalker_24 : decode cX8_addWalker 24 = .ok (.iload_n 3, 1) := by decide +kernel
theorem dX8_addWalker_25 : decode cX8_addWalker 25 = .ok (.iastore, 1) := by decide +kernel
theorem dX8_addWalker_26 : decode cX8_addWalker 26 = .ok (.aload_n 0, 1) := by decide +kernel
theorem dX8_addWalker_27 : decode cX8_addWalker 27 = .ok (.getfield 40, 3) := by decide +kernel
theorem dX8_addWalker_30 : decode cX8_addWalker 30 = .ok (.getfield 76, 3) := by decide +kernel
theorem dX8_addWalker_33 : decode cX8_addWalker 33 = .ok (.aload_n 0, 1) := by decide +kernel
theorem dX8_addWalker_34 : decode cX8_addWalker 34 = .ok (.getfield 21, 3) := by decide +kernel
theorem dX8_addWalker_37 : decode cX8_addWalker 37 = .ok (.iload 4, 2) := by decide +kernel
theorem dX8_addWalker_39 : decode cX8_addWalker 39 = .ok (.iastore, 1) := by decide +kernel
theorem dX8_addWalker_40 : decode cX8_addWalker 40 = .ok (.aload_n 0, 1) := by decide +kernel
theorem dX8_addWalker_41 : decode cX8_addWalker 41 = .ok (.getfield 34, 3) := by decide +kernel
theorem dX8_addWalker_44 : decode cX8_addWalker 44 = .ok (.aload_n 0, 1) := by decide +kernel
theorem dX8_addWalker_45 : decode cX8_addWalker 45 = .ok (.getfield 21, 3) := by decide +kernel
theorem dX8_addWalker_48 : decode cX8_addWalker 48 = .ok (.iload_n 2, 1) := by decide +kernel
theorem dX8_addWalker_49 : decode cX8_addWalker 49 = .ok (.iastore, 1) := by decide +kernel
theorem dX8_addWalker_50 : decode cX8_addWalker 50 = .ok (.aload_n 0, 1) := by decide +kernel
theorem dX8_addWalker_51 : decode cX8_addWalker 51 = .ok (.dup, 1) := by decide +kernel
theorem dX8_addWalker_52 : decode cX8_addWalker 52 = .ok (.getfield 21, 3) := by decide +kernel
theorem dX8_addWalker_55 : decode cX8_addWalker 55 = .ok (.iconst 1, 1) := by decide +kernel
theorem dX8_addWalker_56 : decode cX8_addWalker 56 = .ok (.iadd, 1) := by decide +kernel
theorem dX8_addWalker_57 : decode cX8_addWalker 57 = .ok (.putfield 21, 3) := by decide +kernel
theorem dX8_addWalker_60 : decode cX8_addWalker 60 = .ok (.return_, 1) := by decide +kernel
set_option maxHeartbeats 4000000 in
set_option maxRecDepth 100000 in
theorem t_addLure (l : Launch) (D : va_G) (K : Nat → ClassId) (ad : Nat → Nat) (z : TS) (o : Ok z) (p0 : Nat) (ap0 : at_ 8 p0 = true) (x1 : Int32) (x2 : Int32) (x3 : Int32) (x4 : Int32) (hn : iv 0 5 (tI z p0 2)) : cV l yX8_addLure cX8_addLure 5 ({ frames := 1, cells := 0, slots := 0, locals := 21 }) D K ad z [.ref (ad p0), .int x1, .int x2, .int x3, .int x4] (fun u => Ok u ∧ KC z u) := by
  refine t_enterV (by decide) (Nat.le_of_ble_eq_true rfl) rfl rfl ?_
  intro p e s m args below meth c A R Q H locs ls E hfr hlo RET G hl
  have E : mE p s m meth c cX8_addLure args 5 RX8 D K A := E
  have hl : lv_has ls 5 [(0, .ref (ad p0)), (1, .int x1), (2, .int x2), (3, .int x3), (4, .int x4)] := hl
  refine lv_aload_n E.1 E.2.1 dX8_addLure_0 rfl (lv_at hl 0 rfl) ?_
  refine t_get E G 8 8 (at_ro (i := 0) ap0 (by decide) : ro p0 = 8) (C := RX8) (T := TX8) (N := 10) rfl (by decide) (by decide) (by decide) mw_fl_8_40 (v := .ref (ad (p0 + 5))) (fvl_o (n := 5) rfl) dX8_addLure_1 ?_
  refine t_get E G 6 4 (at_ro (i := 5) ap0 (by decide) : ro (p0 + 5) = 6) (C := RX6) (T := TX6) (N := 8) rfl (by decide) (by decide) (by decide) mw_fl_8_60 (v := .ref (ad (p0 + 10))) (fvl_o (n := 5) rfl) dX8_addLure_4 ?_
  refine lv_aload_n E.1 E.2.1 dX8_addLure_7 rfl (lv_at hl 0 rfl) ?_
  refine t_get E G 8 2 (at_ro (i := 0) ap0 (by decide) : ro p0 = 8) (C := RX8) (T := TX8) (N := 10) rfl (by decide) (by decide) (by decide) mw_fl_8_18 (fvl_i rfl) dX8_addLure_8 ?_
  refine lv_topi (fun v1 e2 => ?_)
  have b3 : iv 0 6 v1 := by rw [e2]; exact o.i 8 2 (at_ro (i := 0) ap0 (by decide) : ro p0 = 8)
  have b4 : iv 0 5 v1 := by rw [e2]; exact hn
  refine lv_iload_n E.1 E.2.1 dX8_addLure_11 rfl (lv_at hl 1 rfl) ?_
  refine t_iast E G 23 (at_ro (i := 10) ap0 (by decide) : ro (p0 + 10) = 23) (by decide) (by decide) rfl (n := 6) rfl (iv_vp b4 (by decide) (by decide)) dX8_addLure_12 (fun H locs G => ?_)
  obtain ⟨zz5, G, oo6, kk7, h8⟩ : ∃ u : TS, mG D A s H locs (wd K ad u) ∧ Ok u ∧ KC z u ∧ tI u p0 2 = v1 := ⟨_, G, ok_uc o 23 (at_ro (i := 10) ap0 (by decide) : ro (p0 + 10) = 23) (by decide) (iv_mono (iv_full x1) (by decide) (by decide)) (by decide), KC.tr KC.rf (KC_r 23 (at_ro (i := 10) ap0 (by decide) : ro (p0 + 10) = 23) (by decide)), e2.symm⟩
  refine lv_aload_n E.1 E.2.1 dX8_addLure_13 rfl (lv_at hl 0 rfl) ?_
  refine t_get E G 8 8 (at_ro (i := 0) ap0 (by decide) : ro p0 = 8) (C := RX8) (T := TX8) (N := 10) rfl (by decide) (by decide) (by decide) mw_fl_8_40 (v := .ref (ad (p0 + 5))) (fvl_o (n := 5) rfl) dX8_addLure_14 ?_
  refine t_get E G 6 5 (at_ro (i := 5) ap0 (by decide) : ro (p0 + 5) = 6) (C := RX6) (T := TX6) (N := 8) rfl (by decide) (by decide) (by decide) mw_fl_8_63 (v := .ref (ad (p0 + 11))) (fvl_o (n := 6) rfl) dX8_addLure_17 ?_
  refine lv_aload_n E.1 E.2.1 dX8_addLure_20 rfl (lv_at hl 0 rfl) ?_
  refine t_get E G 8 2 (at_ro (i := 0) ap0 (by decide) : ro p0 = 8) (C := RX8) (T := TX8) (N := 10) rfl (by decide) (by decide) (by decide) mw_fl_8_18 (fvl_i rfl) dX8_addLure_21 ?_
  refine m_ci v1 h8 ?_
  refine lv_iload_n E.1 E.2.1 dX8_addLure_24 rfl (lv_at hl 2 rfl) ?_
  refine t_iast E G 23 (at_ro (i := 11) ap0 (by decide) : ro (p0 + 11) = 23) (by decide) (by decide) rfl (n := 6) rfl (iv_vp b4 (by decide) (by decide)) dX8_addLure_25 (fun H locs G => ?_)
  obtain ⟨zz9, G, oo10, kk11, h12⟩ : ∃ u : TS, mG D A s H locs (wd K ad u) ∧ Ok u ∧ KC z u ∧ tI u p0 2 = v1 := ⟨_, G, ok_uc oo6 23 (at_ro (i := 11) ap0 (by decide) : ro (p0 + 11) = 23) (by decide) (iv_mono (iv_full x2) (by decide) (by decide)) (by decide), KC.tr kk7 (KC_r 23 (at_ro (i := 11) ap0 (by decide) : ro (p0 + 11) = 23) (by decide)), h8⟩
  refine lv_aload_n E.1 E.2.1 dX8_addLure_26 rfl (lv_at hl 0 rfl) ?_
  refine t_get E G 8 5 (at_ro (i := 0) ap0 (by decide) : ro p0 = 8) (C := RX8) (T := TX8) (N := 10) rfl (by decide) (by decide) (by decide) mw_fl_8_28 (v := .ref (ad (p0 + 2))) (fvl_o (n := 2) rfl) dX8_addLure_27 ?_
  refine lv_aload_n E.1 E.2.1 dX8_addLure_30 rfl (lv_at hl 0 rfl) ?_
  refine t_get E G 8 2 (at_ro (i := 0) ap0 (by decide) : ro p0 = 8) (C := RX8) (T := TX8) (N := 10) rfl (by decide) (by decide) (by decide) mw_fl_8_18 (fvl_i rfl) dX8_addLure_31 ?_
  refine m_ci v1 h12 ?_
  refine lv_iload_n E.1 E.2.1 dX8_addLure_34 rfl (lv_at hl 3 rfl) ?_
  refine t_iast E G 23 (at_ro (i := 2) ap0 (by decide) : ro (p0 + 2) = 23) (by decide) (by decide) rfl (n := 6) rfl (iv_vp b4 (by decide) (by decide)) dX8_addLure_35 (fun H locs G => ?_)
  obtain ⟨zz13, G, oo14, kk15, h16⟩ : ∃ u : TS, mG D A s H locs (wd K ad u) ∧ Ok u ∧ KC z u ∧ tI u p0 2 = v1 := ⟨_, G, ok_uc oo10 23 (at_ro (i := 2) ap0 (by decide) : ro (p0 + 2) = 23) (by decide) (iv_mono (iv_full x3) (by decide) (by decide)) (by decide), KC.tr kk11 (KC_r 23 (at_ro (i := 2) ap0 (by decide) : ro (p0 + 2) = 23) (by decide)), h12⟩
  refine lv_aload_n E.1 E.2.1 dX8_addLure_36 rfl (lv_at hl 0 rfl) ?_
  refine t_get E G 8 6 (at_ro (i := 0) ap0 (by decide) : ro p0 = 8) (C := RX8) (T := TX8) (N := 10) rfl (by decide) (by decide) (by decide) mw_fl_8_31 (v := .ref (ad (p0 + 3))) (fvl_o (n := 3) rfl) dX8_addLure_37 ?_
  refine lv_aload_n E.1 E.2.1 dX8_addLure_40 rfl (lv_at hl 0 rfl) ?_
  refine t_get E G 8 2 (at_ro (i := 0) ap0 (by decide) : ro p0 = 8) (C := RX8) (T := TX8) (N := 10) rfl (by decide) (by decide) (by decide) mw_fl_8_18 (fvl_i rfl) dX8_addLure_41 ?_
  refine m_ci v1 h16 ?_
  refine lv_iload E.1 E.2.1 dX8_addLure_44 (lv_at hl 4 rfl) ?_
  refine t_iast E G 23 (at_ro (i := 3) ap0 (by decide) : ro (p0 + 3) = 23) (by decide) (by decide) rfl (n := 6) rfl (iv_vp b4 (by decide) (by decide)) dX8_addLure_46 (fun H locs G => ?_)
  obtain ⟨zz17, G, oo18, kk19, h20⟩ : ∃ u : TS, mG D A s H locs (wd K ad u) ∧ Ok u ∧ KC z u ∧ tI u p0 2 = v1 := ⟨_, G, ok_uc oo14 23 (at_ro (i := 3) ap0 (by decide) : ro (p0 + 3) = 23) (by decide) (iv_mono (iv_full x4) (by decide) (by decide)) (by decide), KC.tr kk15 (KC_r 23 (at_ro (i := 3) ap0 (by decide) : ro (p0 + 3) = 23) (by decide)), h16⟩
  refine lv_aload_n E.1 E.2.1 dX8_addLure_47 rfl (lv_at hl 0 rfl) ?_
  refine t_get E G 8 8 (at_ro (i := 0) ap0 (by decide) : ro p0 = 8) (C := RX8) (T := TX8) (N := 10) rfl (by decide) (by decide) (by decide) mw_fl_8_40 (v := .ref (ad (p0 + 5))) (fvl_o (n := 5) rfl) dX8_addLure_48 ?_
  refine lv_aload_n E.1 E.2.1 dX8_addLure_51 rfl (lv_at hl 0 rfl) ?_
  refine t_get E G 8 2 (at_ro (i := 0) ap0 (by decide) : ro p0 = 8) (C := RX8) (T := TX8) (N := 10) rfl (by decide) (by decide) (by decide) mw_fl_8_18 (fvl_i rfl) dX8_addLure_52 ?_
  refine m_ci v1 h20 ?_
  refine t_vv E G hl (s_setAgain l D K ad zz17 oo18 (p0 + 5) (at_sub 6 5 ap0 (by decide) (by decide)) v1) 6 (at_ro (i := 5) ap0 (by decide) : ro (p0 + 5) = 6) (by decide) rfl rfl 1 rfl mw_code_X6_setAgain mw_ini_6 mw_ml_8_66 mw_inst_X6_setAgain mw_sel_X6_setAgain hd_X6_setAgain ⟨Nat.le_trans (by decide) hfr, Nat.le_trans (by decide) hlo⟩ rfl rfl rfl (Nat.le_of_ble_eq_true rfl) dX8_addLure_55 (fun zz21 H locs hp23 G => ?_)
  obtain ⟨oo24, kk25⟩ := hp23
  have kk26 : KC z zz21 := KC.tr kk19 (KS.c kk25)
  have h27 : tI zz21 p0 2 = v1 := KF.i kk25 8 (at_ro (i := 0) ap0 (by decide) : ro p0 = 8) (by decide) h20
  refine lv_aload_n E.1 E.2.1 dX8_addLure_58 rfl (lv_at hl 0 rfl) ?_
  refine lv_dup E.1 E.2.1 dX8_addLure_59 rfl ?_
  refine t_get E G 8 2 (at_ro (i := 0) ap0 (by decide) : ro p0 = 8) (C := RX8) (T := TX8) (N := 10) rfl (by decide) (by decide) (by decide) mw_fl_8_18 (fvl_i rfl) dX8_addLure_60 ?_
  refine m_ci v1 h27 ?_
  refine lv_iconst (v := 1) E.1 E.2.1 dX8_addLure_63 (by decide) ?_
  refine lv_iadd E.1 E.2.1 dX8_addLure_64 ?_
  refine lv_topi (fun v28 e29 => ?_)
  have b30 : iv 1 6 v28 := by rw [e29]; exact iv_add b4 (iv_lit (lo := 1) (hi := 1) 1 (by decide) (by decide)) (by decide) (by decide) (by decide) (by decide)
  refine t_puti E G 8 2 (at_ro (i := 0) ap0 (by decide) : ro p0 = 8) (C := RX8) (T := TX8) (N := 10) rfl (by decide) (by decide) (by decide) rfl rfl mw_fl_8_18 rfl dX8_addLure_65 (fun H locs G => ?_)
  obtain ⟨zz31, G, oo32, kk33, h34⟩ : ∃ u : TS, mG D A s H locs (wd K ad u) ∧ Ok u ∧ KC z u ∧ tI u p0 2 = v28 := ⟨_, G, ok_i oo24 8 (at_ro (i := 0) ap0 (by decide) : ro p0 = 8) (iv_mono b30 (by decide) (by decide)) (by decide), KC.tr kk26 (KC_i 8 (at_ro (i := 0) ap0 (by decide) : ro p0 = 8) (by decide)), sI_self⟩
  exact RET G ⟨oo32, kk33⟩ dX8_addLure_68
set_option maxHeartbeats 4000000 in
set_option maxRecDepth 100000 in
theorem t_addWalker (l : Launch) (D : va_G) (K : Nat → ClassId) (ad : Nat → Nat) (z : TS) (o : Ok z) (p0 : Nat) (ap0 : at_ 8 p0 = true) (x1 : Int32) (bx1 : iv 0 7 x1) (x2 : Int32) (bx2 : iv 0 7 x2) (x3 : Int32) (x4 : Int32) (hn : iv 0 4 (tI z p0 3)) : cV l yX8_addWalker cX8_addWalker 5 ({ frames := 0, cells := 0, slots := 0, locals := 0 }) D K ad z [.ref (ad p0), .int x1, .int x2, .int x3, .int x4] (fun u => Ok u ∧ KC z u) := by
  refine t_enterV (by decide) (Nat.le_of_ble_eq_true rfl) rfl rfl ?_
  intro p e s m args below meth c A R Q H locs ls E hfr hlo RET G hl
  have E : mE p s m meth c cX8_addWalker args 5 RX8 D K A := E
  have hl : lv_has ls 5 [(0, .ref (ad p0)), (1, .int x1), (2, .int x2), (3, .int x3), (4, .int x4)] := hl
  refine lv_aload_n E.1 E.2.1 dX8_addWalker_0 rfl (lv_at hl 0 rfl) ?_
  refine t_get E G 8 8 (at_ro (i := 0) ap0 (by decide) : ro p0 = 8) (C := RX8) (T := TX8) (N := 10) rfl (by decide) (by decide) (by decide) mw_fl_8_40 (v := .ref (ad (p0 + 5))) (fvl_o (n := 5) rfl) dX8_addWalker_1 ?_
  refine t_get E G 6 0 (at_ro (i := 5) ap0 (by decide) : ro (p0 + 5) = 6) (C := RX6) (T := TX6) (N := 8) rfl (by decide) (by decide) (by decide) mw_fl_8_70 (v := .ref (ad (p0 + 6))) (fvl_o (n := 1) rfl) dX8_addWalker_4 ?_
  refine lv_aload_n E.1 E.2.1 dX8_addWalker_7 rfl (lv_at hl 0 rfl) ?_
  refine t_get E G 8 3 (at_ro (i := 0) ap0 (by decide) : ro p0 = 8) (C := RX8) (T := TX8) (N := 10) rfl (by decide) (by decide) (by decide) mw_fl_8_21 (fvl_i rfl) dX8_addWalker_8 ?_
  refine lv_topi (fun v1 e2 => ?_)
  have b3 : iv 0 5 v1 := by rw [e2]; exact o.i 8 3 (at_ro (i := 0) ap0 (by decide) : ro p0 = 8)
  have b4 : iv 0 4 v1 := by rw [e2]; exact hn
  refine lv_iload_n E.1 E.2.1 dX8_addWalker_11 rfl (lv_at hl 1 rfl) ?_
  refine t_iast E G 21 (at_ro (i := 6) ap0 (by decide) : ro (p0 + 6) = 21) (by decide) (by decide) rfl (n := 5) rfl (iv_vp b4 (by decide) (by decide)) dX8_addWalker_12 (fun H locs G => ?_)
  obtain ⟨zz5, G, oo6, kk7, h8⟩ : ∃ u : TS, mG D A s H locs (wd K ad u) ∧ Ok u ∧ KC z u ∧ tI u p0 3 = v1 := ⟨_, G, ok_uc o 21 (at_ro (i := 6) ap0 (by decide) : ro (p0 + 6) = 21) (by decide) (iv_mono bx1 (by decide) (by decide)) (by decide), KC.tr KC.rf (KC_r 21 (at_ro (i := 6) ap0 (by decide) : ro (p0 + 6) = 21) (by decide)), e2.symm⟩
  refine lv_aload_n E.1 E.2.1 dX8_addWalker_13 rfl (lv_at hl 0 rfl) ?_
  refine t_get E G 8 8 (at_ro (i := 0) ap0 (by decide) : ro p0 = 8) (C := RX8) (T := TX8) (N := 10) rfl (by decide) (by decide) (by decide) mw_fl_8_40 (v := .ref (ad (p0 + 5))) (fvl_o (n := 5) rfl) dX8_addWalker_14 ?_
  refine t_get E G 6 1 (at_ro (i := 5) ap0 (by decide) : ro (p0 + 5) = 6) (C := RX6) (T := TX6) (N := 8) rfl (by decide) (by decide) (by decide) mw_fl_8_73 (v := .ref (ad (p0 + 7))) (fvl_o (n := 2) rfl) dX8_addWalker_17 ?_
  refine lv_aload_n E.1 E.2.1 dX8_addWalker_20 rfl (lv_at hl 0 rfl) ?_
  refine t_get E G 8 3 (at_ro (i := 0) ap0 (by decide) : ro p0 = 8) (C := RX8) (T := TX8) (N := 10) rfl (by decide) (by decide) (by decide) mw_fl_8_21 (fvl_i rfl) dX8_addWalker_21 ?_
  refine m_ci v1 h8 ?_
  refine lv_iload_n E.1 E.2.1 dX8_addWalker_24 rfl (lv_at hl 3 rfl) ?_
  refine t_iast E G 22 (at_ro (i := 7) ap0 (by decide) : ro (p0 + 7) = 22) (by decide) (by decide) rfl (n := 5) rfl (iv_vp b4 (by decide) (by decide)) dX8_addWalker_25 (fun H locs G => ?_)
  obtain ⟨zz9, G, oo10, kk11, h12⟩ : ∃ u : TS, mG D A s H locs (wd K ad u) ∧ Ok u ∧ KC z u ∧ tI u p0 3 = v1 := ⟨_, G, ok_uc oo6 22 (at_ro (i := 7) ap0 (by decide) : ro (p0 + 7) = 22) (by decide) (iv_mono (iv_full x3) (by decide) (by decide)) (by decide), KC.tr kk7 (KC_r 22 (at_ro (i := 7) ap0 (by decide) : ro (p0 + 7) = 22) (by decide)), h8⟩
  refine lv_aload_n E.1 E.2.1 dX8_addWalker_26 rfl (lv_at hl 0 rfl) ?_
  refine t_get E G 8 8 (at_ro (i := 0) ap0 (by decide) : ro p0 = 8) (C := RX8) (T := TX8) (N := 10) rfl (by decide) (by decide) (by decide) mw_fl_8_40 (v := .ref (ad (p0 + 5))) (fvl_o (n := 5) rfl) dX8_addWalker_27 ?_
  refine t_get E G 6 2 (at_ro (i := 5) ap0 (by decide) : ro (p0 + 5) = 6) (C := RX6) (T := TX6) (N := 8) rfl (by decide) (by decide) (by decide) mw_fl_8_76 (v := .ref (ad (p0 + 8))) (fvl_o (n := 3) rfl) dX8_addWalker_30 ?_
  refine lv_aload_n E.1 E.2.1 dX8_addWalker_33 rfl (lv_at hl 0 rfl) ?_
  refine t_get E G 8 3 (at_ro (i := 0) ap0 (by decide) : ro p0 = 8) (C := RX8) (T := TX8) (N := 10) rfl (by decide) (by decide) (by decide) mw_fl_8_21 (fvl_i rfl) dX8_addWalker_34 ?_
  refine m_ci v1 h12 ?_
  refine lv_iload E.1 E.2.1 dX8_addWalker_37 (lv_at hl 4 rfl) ?_
  refine t_iast E G 22 (at_ro (i := 8) ap0 (by decide) : ro (p0 + 8) = 22) (by decide) (by decide) rfl (n := 5) rfl (iv_vp b4 (by decide) (by decide)) dX8_addWalker_39 (fun H locs G => ?_)
  obtain ⟨zz13, G, oo14, kk15, h16⟩ : ∃ u : TS, mG D A s H locs (wd K ad u) ∧ Ok u ∧ KC z u ∧ tI u p0 3 = v1 := ⟨_, G, ok_uc oo10 22 (at_ro (i := 8) ap0 (by decide) : ro (p0 + 8) = 22) (by decide) (iv_mono (iv_full x4) (by decide) (by decide)) (by decide), KC.tr kk11 (KC_r 22 (at_ro (i := 8) ap0 (by decide) : ro (p0 + 8) = 22) (by decide)), h12⟩
  refine lv_aload_n E.1 E.2.1 dX8_addWalker_40 rfl (lv_at hl 0 rfl) ?_
  refine t_get E G 8 7 (at_ro (i := 0) ap0 (by decide) : ro p0 = 8) (C := RX8) (T := TX8) (N := 10) rfl (by decide) (by decide) (by decide) mw_fl_8_34 (v := .ref (ad (p0 + 4))) (fvl_o (n := 4) rfl) dX8_addWalker_41 ?_
  refine lv_aload_n E.1 E.2.1 dX8_addWalker_44 rfl (lv_at hl 0 rfl) ?_
  refine t_get E G 8 3 (at_ro (i := 0) ap0 (by decide) : ro p0 = 8) (C := RX8) (T := TX8) (N := 10) rfl (by decide) (by decide) (by decide) mw_fl_8_21 (fvl_i rfl) dX8_addWalker_45 ?_
  refine m_ci v1 h16 ?_
  refine lv_iload_n E.1 E.2.1 dX8_addWalker_48 rfl (lv_at hl 2 rfl) ?_
  refine t_iast E G 25 (at_ro (i := 4) ap0 (by decide) : ro (p0 + 4) = 25) (by decide) (by decide) rfl (n := 5) rfl (iv_vp b4 (by decide) (by decide)) dX8_addWalker_49 (fun H locs G => ?_)
  obtain ⟨zz17, G, oo18, kk19, h20⟩ : ∃ u : TS, mG D A s H locs (wd K ad u) ∧ Ok u ∧ KC z u ∧ tI u p0 3 = v1 := ⟨_, G, ok_uc oo14 25 (at_ro (i := 4) ap0 (by decide) : ro (p0 + 4) = 25) (by decide) (iv_mono bx2 (by decide) (by decide)) (by decide), KC.tr kk15 (KC_r 25 (at_ro (i := 4) ap0 (by decide) : ro (p0 + 4) = 25) (by decide)), h16⟩
  refine lv_aload_n E.1 E.2.1 dX8_addWalker_50 rfl (lv_at hl 0 rfl) ?_
  refine lv_dup E.1 E.2.1 dX8_addWalker_51 rfl ?_
  refine t_get E G 8 3 (at_ro (i := 0) ap0 (by decide) : ro p0 = 8) (C := RX8) (T := TX8) (N := 10) rfl (by decide) (by decide) (by decide) mw_fl_8_21 (fvl_i rfl) dX8_addWalker_52 ?_
  refine m_ci v1 h20 ?_
  refine lv_iconst (v := 1) E.1 E.2.1 dX8_addWalker_55 (by decide) ?_
  refine lv_iadd E.1 E.2.1 dX8_addWalker_56 ?_
  refine lv_topi (fun v21 e22 => ?_)
  have b23 : iv 1 5 v21 := by rw [e22]; exact iv_add b4 (iv_lit (lo := 1) (hi := 1) 1 (by decide) (by decide)) (by decide) (by decide) (by decide) (by decide)
  refine t_puti E G 8 3 (at_ro (i := 0) ap0 (by decide) : ro p0 = 8) (C := RX8) (T := TX8) (N := 10) rfl (by decide) (by decide) (by decide) rfl rfl mw_fl_8_21 rfl dX8_addWalker_57 (fun H locs G => ?_)
  obtain ⟨zz24, G, oo25, kk26, h27⟩ : ∃ u : TS, mG D A s H locs (wd K ad u) ∧ Ok u ∧ KC z u ∧ tI u p0 3 = v21 := ⟨_, G, ok_i oo18 8 (at_ro (i := 0) ap0 (by decide) : ro p0 = 8) (iv_mono b23 (by decide) (by decide)) (by decide), KC.tr kk19 (KC_i 8 (at_ro (i := 0) ap0 (by decide) : ro p0 = 8) (by decide)), sI_self⟩
  exact RET G ⟨oo25, kk26⟩ dX8_addWalker_60
