theorem mw_code_X4_write : (Cond.code yX4_write cX4_write 2 none : Cond) ∈ cw := cw_of (List.mem_append_right _ (List.mem_append_right _ (List.mem_append_right _ (List.mem_append_left _ (List.mem_of_getElem? (i := 215) rfl))))) (by decide +kernel)
theorem mw_code_X5_rankOf : (Cond.code yX5_rankOf cX5_rankOf 1 (some .int) : Cond) ∈ cw := cw_of (List.mem_append_right _ (List.mem_append_right _ (List.mem_append_right _ (List.mem_append_left _ (List.mem_of_getElem? (i := 226) rfl))))) (by decide +kernel)
theorem mw_fl_5_26 : (Cond.fieldLink RX5 26 "LureTown$RuleReader" "depth" "I" : Cond) ∈ cw := cw_of (List.mem_append_right _ (List.mem_append_left _ (List.mem_of_getElem? (i := 231) (by decide +kernel)))) (by decide +kernel)
theorem mw_fl_5_44 : (Cond.fieldLink RX5 44 "LureTown$RuleReader" "rule" "LLureTown$Rule;" : Cond) ∈ cw := cw_of (List.mem_append_right _ (List.mem_append_left _ (List.mem_of_getElem? (i := 236) (by decide +kernel)))) (by decide +kernel)
theorem mw_ini_5 : (Cond.initialized RX5 : Cond) ∈ cw := cw_of (List.mem_append_right _ (List.mem_append_left _ (List.mem_of_getElem? (i := 6) (by decide +kernel)))) (by decide +kernel)
theorem mw_inst_X4_write : (Cond.instanceMethod yX4_write : Cond) ∈ cw := cw_of (List.mem_append_right _ (List.mem_append_right _ (List.mem_append_right _ (List.mem_append_left _ (List.mem_of_getElem? (i := 213) (by decide +kernel)))))) (by decide +kernel)
theorem mw_ml_5_94 : (Cond.methodLink RX5 94 yX4_write : Cond) ∈ cw := cw_of (List.mem_append_right _ (List.mem_append_right _ (List.mem_append_right _ (List.mem_append_left _ (List.mem_of_getElem? (i := 212) (by decide +kernel)))))) (by decide +kernel)
theorem mw_ml_5_97 : (Cond.methodLink RX5 97 yX5_rankOf : Cond) ∈ cw := cw_of (List.mem_append_right _ (List.mem_append_right _ (List.mem_append_right _ (List.mem_append_left _ (List.mem_of_getElem? (i := 224) (by decide +kernel)))))) (by decide +kernel)
theorem mw_sel_X4_write : (Cond.selects RX4 yX4_write yX4_write : Cond) ∈ cw := cw_of (List.mem_append_right _ (List.mem_append_right _ (List.mem_append_right _ (List.mem_append_left _ (List.mem_of_getElem? (i := 214) (by decide +kernel)))))) (by decide +kernel)
theorem mw_stat_X5_rankOf : (Cond.static yX5_rankOf : Cond) ∈ cw := cw_of (List.mem_append_right _ (List.mem_append_right _ (List.mem_append_right _ (List.mem_append_left _ (List.mem_of_getElem? (i := 225) (by decide +kernel)))))) (by decide +kernel)
theorem dX5_release_0 : decode cX5_release 0 = .ok (.aload_n 0, 1) := by decide +kernel
theorem dX5_release_1 : decode cX5_release 1 = .ok (.getfield 22, 3) := by decide +kernel
theorem dX5_release_4 : decode cX5_release 4 = .ok (.ifCond .le 74, 3) := by decide +kernel
theorem dX5_release_7 : decode cX5_release 7 = .ok (.aload_n 0, 1) := by decide +kernel
theorem dX5_release_8 : decode cX5_release 8 = .ok (.getfield 18, 3) := by decide +kernel
theorem dX5_release_11 : decode cX5_release 11 = .ok (.aload_n 0, 1) := by decide +kernel
theorem dX5_release_12 : decode cX5_release 12 = .ok (.getfield 22, 3) := by decide +kernel
theorem dX5_release_15 : decode cX5_release 15 = .ok (.iconst 1, 1) := by decide +kernel
theorem dX5_release_16 : decode cX5_release 16 = .ok (.isub, 1) := by decide +kernel
theorem dX5_release_17 : decode cX5_release 17 = .ok (.iaload, 1) := by decide +kernel
theorem dX5_release_18 : decode cX5_release 18 = .ok (.invokestatic 97, 3) := by decide +kernel
theorem dX5_release_21 : decode cX5_release 21 = .ok (.iload_n 1, 1) := by decide +kernel
theorem dX5_release_22 : decode cX5_release 22 = .ok (.if_icmp .lt 56, 3) := by decide +kernel
theorem dX5_release_25 : decode cX5_release 25 = .ok (.aload_n 0, 1) := by decide +kernel
theorem dX5_release_26 : decode cX5_release 26 = .ok (.dup, 1) := by decide +kernel
theorem dX5_release_27 : decode cX5_release 27 = .ok (.getfield 22, 3) := by decide +kernel
theorem dX5_release_30 : decode cX5_release 30 = .ok (.iconst 1, 1) := by decide +kernel
theorem dX5_release_31 : decode cX5_release 31 = .ok (.isub, 1) := by decide +kernel
theorem dX5_release_32 : decode cX5_release 32 = .ok (.putfield 22, 3) := by decide +kernel
theorem dX5_release_35 : decode cX5_release 35 = .ok (.aload_n 0, 1) := by decide +kernel
theorem dX5_release_36 : decode cX5_release 36 = .ok (.getfield 44, 3) := by decide +kernel
theorem dX5_release_39 : decode cX5_release 39 = .ok (.aload_n 0, 1) := by decide +kernel
theorem dX5_release_40 : decode cX5_release 40 = .ok (.getfield 18, 3) := by decide +kernel
theorem dX5_release_43 : decode cX5_release 43 = .ok (.aload_n 0, 1) := by decide +kernel
theorem dX5_release_44 : decode cX5_release 44 = .ok (.getfield 22, 3) := by decide +kernel
theorem dX5_release_47 : decode cX5_release 47 = .ok (.iaload, 1) := by decide +kernel
theorem dX5_release_48 : decode cX5_release 48 = .ok (.invokevirtual 94, 3) := by decide +kernel
theorem dX5_release_51 : decode cX5_release 51 = .ok (.aload_n 0, 1) := by decide +kernel
theorem dX5_release_52 : decode cX5_release 52 = .ok (.getfield 18, 3) := by decide +kernel
theorem dX5_release_55 : decode cX5_release 55 = .ok (.aload_n 0, 1) := by decide +kernel
theorem dX5_release_56 : decode cX5_release 56 = .ok (.getfield 22, 3) := by decide +kernel
theorem dX5_release_59 : decode cX5_release 59 = .ok (.iaload, 1) := by decide +kernel
theorem dX5_release_60 : decode cX5_release 60 = .ok (.bipush 15, 2) := by decide +kernel
theorem dX5_release_62 : decode cX5_release 62 = .ok (.if_icmp .ne (-62), 3) := by decide +kernel
theorem dX5_release_65 : decode cX5_release 65 = .ok (.aload_n 0, 1) := by decide +kernel
theorem dX5_release_66 : decode cX5_release 66 = .ok (.dup, 1) := by decide +kernel
theorem dX5_release_67 : decode cX5_release 67 = .ok (.getfield 26, 3) := by decide +kernel
theorem dX5_release_70 : decode cX5_release 70 = .ok (.iconst 1, 1) := by decide +kernel
theorem dX5_release_71 : decode cX5_release 71 = .ok (.isub, 1) := by decide +kernel
theorem dX5_release_72 : decode cX5_release 72 = .ok (.putfield 26, 3) := by decide +kernel
theorem dX5_release_75 : decode cX5_release 75 = .ok (.goto (-75), 3) := by decide +kernel
theorem dX5_release_78 : decode cX5_release 78 = .ok (.return_, 1) := by decide +kernel
theorem hd_X4_write : yX4_write.cls ≠ "java/lang/invoke/MethodHandle" ∧ yX4_write.cls ≠ "java/lang/invoke/VarHandle" ∧ (parseMethodDescriptor yX4_write.desc).map (fun d => d.parameters.length) = some 1 := ⟨by decide +kernel, by decide +kernel, by decide +kernel⟩
theorem hd_X5_rankOf : yX5_rankOf.cls ≠ "java/lang/invoke/MethodHandle" ∧ yX5_rankOf.cls ≠ "java/lang/invoke/VarHandle" ∧ (parseMethodDescriptor yX5_rankOf.desc).map (fun d => d.parameters.length) = some 1 := ⟨by decide +kernel, by decide +kernel, by decide +kernel⟩
set_option maxHeartbeats 4000000 in
set_option maxRecDepth 100000 in
theorem rr_release (l : Launch) (D : va_G) (K : Nat → ClassId) (ad : Nat → Nat) (z : TS) (o : Ok z) (x1 : Int32) : cV l yX5_release cX5_release 2 ({ frames := 1, cells := 0, slots := 0, locals := 21 }) D K ad z [.ref (ad 5), .int x1] (fun u => Ok u ∧ KC z u ∧ tI u 0 5 = tI z 0 5) := by
  refine t_enterV (by decide) (Nat.le_of_ble_eq_true rfl) rfl rfl ?_
  intro p e s m args below meth c A R Q H locs ls E hfr hlo RET G hl
  have E : mE p s m meth c cX5_release args 2 RX5 D K A := E
  have hl : lv_has ls 2 [(0, .ref (ad 5)), (1, .int x1)] := hl
  have LOOP0 : ∀ n : Nat, ∀ (zz1 : TS) (H : Heap) (locs : List Loc) (ls : Array Slot), mG D A s H locs (wd K ad zz1) → Ok zz1 → KC z zz1 → tI zz1 0 5 = tI z 0 5 → (tI zz1 5 2).toInt < (n : Int) → lv_has ls 2 [(0, .ref (ad 5)), (1, .int x1)] → W p l e R s m args below meth c H locs 0 0 Q (F0 m 0 ls []) := by
    intro n
    induction n with
    | zero =>
      intro zz1 H locs ls G oo2 kk3 h5 m4 hl
      exact absurd m4 (by have := (iv_mono (oo2.i (j := 5) 5 2 (rfl : ro 5 = 5)) (show (0 : Int) ≤ ilo 5 2 by decide) (show ihi 5 2 ≤ 400 by decide)).1; omega)
    | succ n ih0 =>
      intro zz1 H locs ls G oo2 kk3 h5 m4 hl
      refine lv_aload_n E.1 E.2.1 dX5_release_0 rfl (lv_at hl 0 rfl) ?_
      refine t_get E G 5 2 (rfl : ro 5 = 5) (C := RX5) (T := TX5) (N := 9) rfl (by decide) (by decide) (by decide) mw_fl_5_22 (fvl_i rfl) dX5_release_1 ?_
      refine lv_topi (fun v6 e7 => ?_)
      have b8 : iv 0 400 v6 := by rw [e7]; exact oo2.i 5 2 (rfl : ro 5 = 5)
      refine lv_if_le (tgt := 78) E.1 E.2.1 dX5_release_4 (by decide) (fun c9 => ?_) (fun c9 => ?_)
      · skip
        have b10 : iv 0 0 v6 := le_l c9 b8 (iv_lit (lo := 0) (hi := 0) 0 (by decide) (by decide)) (by decide)
        exact RET G ⟨oo2, kk3, h5⟩ dX5_release_78
      · skip
        have b11 : iv 1 400 v6 := lt_r (Int32.not_le.mp c9) (iv_lit (lo := 0) (hi := 0) 0 (by decide) (by decide)) b8 (by decide)
        refine lv_aload_n E.1 E.2.1 dX5_release_7 rfl (lv_at hl 0 rfl) ?_
        refine t_get E G 5 1 (rfl : ro 5 = 5) (C := RX5) (T := TX5) (N := 9) rfl (by decide) (by decide) (by decide) mw_fl_5_18 (v := .ref (ad 6)) (fvl_o (n := 1) rfl) dX5_release_8 ?_
        refine lv_aload_n E.1 E.2.1 dX5_release_11 rfl (lv_at hl 0 rfl) ?_
        refine t_get E G 5 2 (rfl : ro 5 = 5) (C := RX5) (T := TX5) (N := 9) rfl (by decide) (by decide) (by decide) mw_fl_5_22 (fvl_i rfl) dX5_release_12 ?_
        refine m_ci v6 e7.symm ?_
        refine lv_iconst (v := 1) E.1 E.2.1 dX5_release_15 (by decide) ?_
        refine lv_isub E.1 E.2.1 dX5_release_16 ?_
        refine lv_topi (fun v12 e13 => ?_)
        have b14 : iv 0 399 v12 := by rw [e13]; exact iv_sub b11 (iv_lit (lo := 1) (hi := 1) 1 (by decide) (by decide)) (by decide) (by decide) (by decide) (by decide)
        refine t_iald E G 35 (rfl : ro 6 = 35) (by decide) (by decide) rfl (n := 400) rfl (iv_vp b14 (by decide) (by decide)) dX5_release_17 ?_
        refine lv_topi (fun v15 e16 => ?_)
        have b17 : iv 0 2147483647 v15 := by rw [e16]; exact oo2.ac 35 (rfl : ro 6 = 35) (by decide) _
        refine t_si E G hl (rr_rankOf l D K ad zz1 oo2 v15) 1 rfl mw_code_X5_rankOf mw_ini_5 mw_ml_5_97 mw_stat_X5_rankOf hd_X5_rankOf ⟨Nat.le_trans (by decide) hfr, Nat.le_trans (by decide) hlo⟩ rfl rfl rfl (Nat.le_of_ble_eq_true rfl) dX5_release_18 (fun r19 zz18 H locs hp20 G => ?_)
        obtain ⟨hz22, b21⟩ := hp20
        rw [hz22] at G
        refine lv_iload_n E.1 E.2.1 dX5_release_21 rfl (lv_at hl 1 rfl) ?_
        refine lv_icmp_lt (tgt := 78) E.1 E.2.1 dX5_release_22 (by decide) (fun c23 => ?_) (fun c23 => ?_)
        · skip
          have b24 : iv 1 2147483647 x1 := lt_r c23 b21 (iv_full x1) (by decide)
          exact RET G ⟨oo2, kk3, h5⟩ dX5_release_78
        · skip
          have b25 : iv (-2147483648) 6 x1 := le_l (Int32.not_lt.mp c23) (iv_full x1) b21 (by decide)
          refine lv_aload_n E.1 E.2.1 dX5_release_25 rfl (lv_at hl 0 rfl) ?_
          refine lv_dup E.1 E.2.1 dX5_release_26 rfl ?_
          refine t_get E G 5 2 (rfl : ro 5 = 5) (C := RX5) (T := TX5) (N := 9) rfl (by decide) (by decide) (by decide) mw_fl_5_22 (fvl_i rfl) dX5_release_27 ?_
          refine m_ci v6 e7.symm ?_
          refine lv_iconst (v := 1) E.1 E.2.1 dX5_release_30 (by decide) ?_
          refine lv_isub E.1 E.2.1 dX5_release_31 ?_
          refine lv_topi (fun v26 e27 => ?_)
          have b28 : iv 0 399 v26 := by rw [e27]; exact iv_sub b11 (iv_lit (lo := 1) (hi := 1) 1 (by decide) (by decide)) (by decide) (by decide) (by decide) (by decide)
          refine t_puti E G 5 2 (rfl : ro 5 = 5) (C := RX5) (T := TX5) (N := 9) rfl (by decide) (by decide) (by decide) rfl rfl mw_fl_5_22 rfl dX5_release_32 (fun H locs G => ?_)
          obtain ⟨zz29, G, oo30, kk31, h32, h33⟩ : ∃ u : TS, mG D A s H locs (wd K ad u) ∧ Ok u ∧ KC z u ∧ tI u 0 5 = (tI z 0 5) ∧ tI u 5 2 = v26 := ⟨_, G, ok_i oo2 5 (rfl : ro 5 = 5) (iv_mono b28 (by decide) (by decide)) (by decide), KC.tr kk3 (KC_i 5 (rfl : ro 5 = 5) (by decide)), (sI_k h5 (by decide)), sI_self⟩
          refine lv_aload_n E.1 E.2.1 dX5_release_35 rfl (lv_at hl 0 rfl) ?_
          refine t_get E G 5 8 (rfl : ro 5 = 5) (C := RX5) (T := TX5) (N := 9) rfl (by decide) (by decide) (by decide) mw_fl_5_44 (fvl_d rfl) dX5_release_36 ?_
          obtain ⟨qq34, eqq34⟩ : ∃ q : Nat, q = tP zz29 5 8 := ⟨_, rfl⟩
          have aqq34 : at_ 4 qq34 = true := by rw [eqq34]; exact oo30.p 5 8 (rfl : ro 5 = 5) (by decide)
          rw [← eqq34]
          refine lv_aload_n E.1 E.2.1 dX5_release_39 rfl (lv_at hl 0 rfl) ?_
          refine t_get E G 5 1 (rfl : ro 5 = 5) (C := RX5) (T := TX5) (N := 9) rfl (by decide) (by decide) (by decide) mw_fl_5_18 (v := .ref (ad 6)) (fvl_o (n := 1) rfl) dX5_release_40 ?_
          refine lv_aload_n E.1 E.2.1 dX5_release_43 rfl (lv_at hl 0 rfl) ?_
          refine t_get E G 5 2 (rfl : ro 5 = 5) (C := RX5) (T := TX5) (N := 9) rfl (by decide) (by decide) (by decide) mw_fl_5_22 (fvl_i rfl) dX5_release_44 ?_
          refine m_ci v26 h33 ?_
          refine t_iald E G 35 (rfl : ro 6 = 35) (by decide) (by decide) rfl (n := 400) rfl (iv_vp b28 (by decide) (by decide)) dX5_release_47 ?_
          refine lv_topi (fun v35 e36 => ?_)
          have b37 : iv 0 2147483647 v35 := by rw [e36]; exact oo30.ac 35 (rfl : ro 6 = 35) (by decide) _
          refine t_vv E G hl (r_write l D K ad zz29 oo30 qq34 aqq34 v35 (iv_mono b37 (by decide) (by decide))) 4 (at_ro (i := 0) aqq34 (by decide) : ro qq34 = 4) (by decide) rfl rfl 1 rfl mw_code_X4_write mw_ini_4 mw_ml_5_94 mw_inst_X4_write mw_sel_X4_write hd_X4_write ⟨Nat.le_trans (by decide) hfr, Nat.le_trans (by decide) hlo⟩ rfl rfl rfl (Nat.le_of_ble_eq_true rfl) dX5_release_48 (fun zz38 H locs hp40 G => ?_)
          obtain ⟨oo41, kk42⟩ := hp40
          have kk43 : KC z zz38 := KC.tr kk31 (KW.c kk42)
          have h44 : tI zz38 0 5 = (tI z 0 5) := KF.i kk42 10 (rfl : ro 0 = 10) (by decide) h32
          have h45 : tI zz38 5 2 = v26 := KF.i kk42 5 (rfl : ro 5 = 5) (by decide) h33
          have h46 : tP zz38 5 8 = qq34 := KF.p kk42 eqq34.symm
          refine lv_aload_n E.1 E.2.1 dX5_release_51 rfl (lv_at hl 0 rfl) ?_
          refine t_get E G 5 1 (rfl : ro 5 = 5) (C := RX5) (T := TX5) (N := 9) rfl (by decide) (by decide) (by decide) mw_fl_5_18 (v := .ref (ad 6)) (fvl_o (n := 1) rfl) dX5_release_52 ?_
          refine lv_aload_n E.1 E.2.1 dX5_release_55 rfl (lv_at hl 0 rfl) ?_
          refine t_get E G 5 2 (rfl : ro 5 = 5) (C := RX5) (T := TX5) (N := 9) rfl (by decide) (by decide) (by decide) mw_fl_5_22 (fvl_i rfl) dX5_release_56 ?_
          refine m_ci v26 h45 ?_
          refine t_iald E G 35 (rfl : ro 6 = 35) (by decide) (by decide) rfl (n := 400) rfl (iv_vp b28 (by decide) (by decide)) dX5_release_59 ?_
          refine lv_topi (fun v47 e48 => ?_)
          have b49 : iv 0 2147483647 v47 := by rw [e48]; exact oo41.ac 35 (rfl : ro 6 = 35) (by decide) _
          refine lv_bipush (v := 15) E.1 E.2.1 dX5_release_60 (by decide) ?_
          refine lv_icmp_ne (tgt := 0) E.1 E.2.1 dX5_release_62 (by decide) (fun c50 => ?_) (fun c50 => ?_)
          · skip
            exact ih0 zz38 H locs ls G oo41 kk43 h44 (by rw [h45, e27, ti_subc 1 (by decide) b11 (by decide) (by decide), e7]; have := m4; omega) (lv_sub hl [0, 1] rfl)
          · skip
            have b51 : iv 15 15 v47 := iv_eq c50 (iv_lit (lo := 15) (hi := 15) 15 (by decide) (by decide))
            refine lv_aload_n E.1 E.2.1 dX5_release_65 rfl (lv_at hl 0 rfl) ?_
            refine lv_dup E.1 E.2.1 dX5_release_66 rfl ?_
            refine t_get E G 5 3 (rfl : ro 5 = 5) (C := RX5) (T := TX5) (N := 9) rfl (by decide) (by decide) (by decide) mw_fl_5_26 (fvl_i rfl) dX5_release_67 ?_
            refine lv_topi (fun v52 e53 => ?_)
            refine lv_iconst (v := 1) E.1 E.2.1 dX5_release_70 (by decide) ?_
            refine lv_isub E.1 E.2.1 dX5_release_71 ?_
            refine lv_topi (fun v54 e55 => ?_)
            refine t_puti E G 5 3 (rfl : ro 5 = 5) (C := RX5) (T := TX5) (N := 9) rfl (by decide) (by decide) (by decide) rfl rfl mw_fl_5_26 rfl dX5_release_72 (fun H locs G => ?_)
            obtain ⟨zz56, G, oo57, kk58, h59, h60, h61, h62⟩ : ∃ u : TS, mG D A s H locs (wd K ad u) ∧ Ok u ∧ KC z u ∧ tI u 0 5 = (tI z 0 5) ∧ tI u 5 2 = v26 ∧ tI u 5 3 = v54 ∧ tP u 5 8 = qq34 := ⟨_, G, ok_i oo41 5 (rfl : ro 5 = 5) (iv_mono (iv_full v54) (by decide) (by decide)) (by decide), KC.tr kk43 (KC_i 5 (rfl : ro 5 = 5) (by decide)), (sI_k h44 (by decide)), (sI_k h45 (by decide)), sI_self, h46⟩
            refine lv_goto (tgt := 0) E.1 E.2.1 dX5_release_75 (by decide) ?_
            exact ih0 zz56 H locs ls G oo57 kk58 h59 (by rw [h60, e27, ti_subc 1 (by decide) b11 (by decide) (by decide), e7]; have := m4; omega) (lv_sub hl [0, 1] rfl)
  exact LOOP0 401 z H locs ls G o KC.rf rfl (by have := (iv_mono (o.i (j := 5) 5 2 (rfl : ro 5 = 5)) (show (0 : Int) ≤ ilo 5 2 by decide) (show ihi 5 2 ≤ 400 by decide)).2; omega) (lv_sub hl [0, 1] rfl)
