theorem mw_code_J0_indexOf_0f7a4 : (Cond.code yJ0_indexOf_0f7a4 cJ0_indexOf_0f7a4 2 (some .int) : Cond) ∈ cw := cw_of (List.mem_append_right _ (List.mem_append_right _ (List.mem_append_right _ (List.mem_append_left _ (List.mem_of_getElem? (i := 53) rfl))))) (by decide +kernel)
theorem mw_inst_J0_indexOf_0f7a4 : (Cond.instanceMethod yJ0_indexOf_0f7a4 : Cond) ∈ cw := cw_of (List.mem_append_right _ (List.mem_append_right _ (List.mem_append_right _ (List.mem_append_left _ (List.mem_of_getElem? (i := 51) (by decide +kernel)))))) (by decide +kernel)
theorem mw_ml_7_67 : (Cond.methodLink RX7 67 yJ0_indexOf_0f7a4 : Cond) ∈ cw := cw_of (List.mem_append_right _ (List.mem_append_right _ (List.mem_append_right _ (List.mem_append_left _ (List.mem_of_getElem? (i := 50) (by decide +kernel)))))) (by decide +kernel)
theorem mw_sel_J0_indexOf_0f7a4 : (Cond.selects RJ0 yJ0_indexOf_0f7a4 yJ0_indexOf_0f7a4 : Cond) ∈ cw := cw_of (List.mem_append_right _ (List.mem_append_right _ (List.mem_append_right _ (List.mem_append_left _ (List.mem_of_getElem? (i := 52) (by decide +kernel)))))) (by decide +kernel)
theorem dX7_readSign_0 : decode cX7_readSign 0 = .ok (.ldc 65, 2) := by decide +kernel
theorem dX7_readSign_2 : decode cX7_readSign 2 = .ok (.aload_n 0, 1) := by decide +kernel
theorem dX7_readSign_3 : decode cX7_readSign 3 = .ok (.getfield 9, 3) := by decide +kernel
theorem dX7_readSign_6 : decode cX7_readSign 6 = .ok (.aload_n 0, 1) := by decide +kernel
theorem dX7_readSign_7 : decode cX7_readSign 7 = .ok (.getfield 28, 3) := by decide +kernel
theorem dX7_readSign_10 : decode cX7_readSign 10 = .ok (.baload, 1) := by decide +kernel
theorem dX7_readSign_11 : decode cX7_readSign 11 = .ok (.sipush 255, 3) := by decide +kernel
theorem dX7_readSign_14 : decode cX7_readSign 14 = .ok (.iand, 1) := by decide +kernel
theorem dX7_readSign_15 : decode cX7_readSign 15 = .ok (.i2c, 1) := by decide +kernel
theorem dX7_readSign_16 : decode cX7_readSign 16 = .ok (.invokevirtual 67, 3) := by decide +kernel
theorem dX7_readSign_19 : decode cX7_readSign 19 = .ok (.istore_n 1, 1) := by decide +kernel
theorem dX7_readSign_20 : decode cX7_readSign 20 = .ok (.aload_n 0, 1) := by decide +kernel
theorem dX7_readSign_21 : decode cX7_readSign 21 = .ok (.iload_n 1, 1) := by decide +kernel
theorem dX7_readSign_22 : decode cX7_readSign 22 = .ok (.ifCond .ge 8, 3) := by decide +kernel
theorem dX7_readSign_25 : decode cX7_readSign 25 = .ok (.bipush 41, 2) := by decide +kernel
theorem dX7_readSign_27 : decode cX7_readSign 27 = .ok (.goto 7, 3) := by decide +kernel
theorem dX7_readSign_30 : decode cX7_readSign 30 = .ok (.bipush 20, 2) := by decide +kernel
theorem dX7_readSign_32 : decode cX7_readSign 32 = .ok (.iload_n 1, 1) := by decide +kernel
theorem dX7_readSign_33 : decode cX7_readSign 33 = .ok (.iadd, 1) := by decide +kernel
theorem dX7_readSign_34 : decode cX7_readSign 34 = .ok (.putfield 22, 3) := by decide +kernel
theorem dX7_readSign_37 : decode cX7_readSign 37 = .ok (.aload_n 0, 1) := by decide +kernel
theorem dX7_readSign_38 : decode cX7_readSign 38 = .ok (.dup, 1) := by decide +kernel
theorem dX7_readSign_39 : decode cX7_readSign 39 = .ok (.getfield 31, 3) := by decide +kernel
theorem dX7_readSign_42 : decode cX7_readSign 42 = .ok (.iconst 1, 1) := by decide +kernel
theorem dX7_readSign_43 : decode cX7_readSign 43 = .ok (.iadd, 1) := by decide +kernel
theorem dX7_readSign_44 : decode cX7_readSign 44 = .ok (.putfield 31, 3) := by decide +kernel
theorem dX7_readSign_47 : decode cX7_readSign 47 = .ok (.aload_n 0, 1) := by decide +kernel
theorem dX7_readSign_48 : decode cX7_readSign 48 = .ok (.getfield 22, 3) := by decide +kernel
theorem dX7_readSign_51 : decode cX7_readSign 51 = .ok (.bipush 28, 2) := by decide +kernel
theorem dX7_readSign_53 : decode cX7_readSign 53 = .ok (.if_icmp .eq 12, 3) := by decide +kernel
theorem dX7_readSign_56 : decode cX7_readSign 56 = .ok (.aload_n 0, 1) := by decide +kernel
theorem dX7_readSign_57 : decode cX7_readSign 57 = .ok (.getfield 22, 3) := by decide +kernel
theorem dX7_readSign_60 : decode cX7_readSign 60 = .ok (.bipush 30, 2) := by decide +kernel
theorem dX7_readSign_62 : decode cX7_readSign 62 = .ok (.if_icmp .ne 58, 3) := by decide +kernel
theorem dX7_readSign_65 : decode cX7_readSign 65 = .ok (.aload_n 0, 1) := by decide +kernel
theorem dX7_readSign_66 : decode cX7_readSign 66 = .ok (.getfield 31, 3) := by decide +kernel
theorem dX7_readSign_69 : decode cX7_readSign 69 = .ok (.aload_n 0, 1) := by decide +kernel
theorem dX7_readSign_70 : decode cX7_readSign 70 = .ok (.getfield 15, 3) := by decide +kernel
theorem dX7_readSign_73 : decode cX7_readSign 73 = .ok (.if_icmp .ge 47, 3) := by decide +kernel
theorem dX7_readSign_76 : decode cX7_readSign 76 = .ok (.aload_n 0, 1) := by decide +kernel
theorem dX7_readSign_77 : decode cX7_readSign 77 = .ok (.getfield 9, 3) := by decide +kernel
theorem dX7_readSign_80 : decode cX7_readSign 80 = .ok (.aload_n 0, 1) := by decide +kernel
theorem dX7_readSign_81 : decode cX7_readSign 81 = .ok (.getfield 31, 3) := by decide +kernel
theorem dX7_readSign_84 : decode cX7_readSign 84 = .ok (.baload, 1) := by decide +kernel
theorem dX7_readSign_85 : decode cX7_readSign 85 = .ok (.bipush 61, 2) := by decide +kernel
theorem dX7_readSign_87 : decode cX7_readSign 87 = .ok (.if_icmp .ne 33, 3) := by decide +kernel
theorem dX7_readSign_90 : decode cX7_readSign 90 = .ok (.aload_n 0, 1) := by decide +kernel
theorem dX7_readSign_91 : decode cX7_readSign 91 = .ok (.aload_n 0, 1) := by decide +kernel
theorem dX7_readSign_92 : decode cX7_readSign 92 = .ok (.getfield 22, 3) := by decide +kernel
theorem dX7_readSign_95 : decode cX7_readSign 95 = .ok (.bipush 28, 2) := by decide +kernel
theorem dX7_readSign_97 : decode cX7_readSign 97 = .ok (.if_icmp .ne 8, 3) := by decide +kernel
theorem dX7_readSign_100 : decode cX7_readSign 100 = .ok (.bipush 31, 2) := by decide +kernel
theorem dX7_readSign_102 : decode cX7_readSign 102 = .ok (.goto 5, 3) := by decide +kernel
theorem dX7_readSign_105 : decode cX7_readSign 105 = .ok (.bipush 32, 2) := by decide +kernel
theorem dX7_readSign_107 : decode cX7_readSign 107 = .ok (.putfield 22, 3) := by decide +kernel
theorem dX7_readSign_110 : decode cX7_readSign 110 = .ok (.aload_n 0, 1) := by decide +kernel
theorem dX7_readSign_111 : decode cX7_readSign 111 = .ok (.dup, 1) := by decide +kernel
theorem dX7_readSign_112 : decode cX7_readSign 112 = .ok (.getfield 31, 3) := by decide +kernel
theorem dX7_readSign_115 : decode cX7_readSign 115 = .ok (.iconst 1, 1) := by decide +kernel
theorem dX7_readSign_116 : decode cX7_readSign 116 = .ok (.iadd, 1) := by decide +kernel
theorem dX7_readSign_117 : decode cX7_readSign 117 = .ok (.putfield 31, 3) := by decide +kernel
theorem dX7_readSign_120 : decode cX7_readSign 120 = .ok (.return_, 1) := by decide +kernel
theorem hd_J0_indexOf_0f7a4 : yJ0_indexOf_0f7a4.cls ≠ "java/lang/invoke/MethodHandle" ∧ yJ0_indexOf_0f7a4.cls ≠ "java/lang/invoke/VarHandle" ∧ (parseMethodDescriptor yJ0_indexOf_0f7a4.desc).map (fun d => d.parameters.length) = some 1 := ⟨by decide +kernel, by decide +kernel, by decide +kernel⟩
set_option maxHeartbeats 4000000 in
set_option maxRecDepth 100000 in
theorem tp_readSign (l : Launch) (D : va_G) (K : Nat → ClassId) (ad : Nat → Nat) (z : TS) (o : Ok z) (p0 : Nat) (ap0 : at_ 7 p0 = true) (hs : tI z p0 5 = tI z p0 6) (hr : iv 0 399 (tI z p0 6)) : cV l yX7_readSign cX7_readSign 2 ({ frames := 4, cells := 0, slots := 0, locals := 91 }) D K ad z [.ref (ad p0)] (fun u => Ok u ∧ KT z u) := by
  refine t_enterV (by decide) (Nat.le_of_ble_eq_true rfl) rfl rfl ?_
  intro p e s m args below meth c A R Q H locs ls E hfr hlo RET G hl
  have E : mE p s m meth c cX7_readSign args 2 RX7 D K A := E
  have hl : lv_has ls 2 [(0, .ref (ad p0))] := hl
  refine t_ldcG E dX7_readSign_0 ?_
  refine lv_aload_n E.1 E.2.1 dX7_readSign_2 rfl (lv_at hl 0 rfl) ?_
  refine t_get E G 7 0 (at_ro (i := 0) ap0 (by decide) : ro p0 = 7) (C := RX7) (T := TX7) (N := 7) rfl (by decide) (by decide) (by decide) mw_fl_7_9 (v := .ref (ad (p0 + 1))) (fvl_o (n := 1) rfl) dX7_readSign_3 ?_
  refine lv_aload_n E.1 E.2.1 dX7_readSign_6 rfl (lv_at hl 0 rfl) ?_
  refine t_get E G 7 5 (at_ro (i := 0) ap0 (by decide) : ro p0 = 7) (C := RX7) (T := TX7) (N := 7) rfl (by decide) (by decide) (by decide) mw_fl_7_28 (fvl_i rfl) dX7_readSign_7 ?_
  refine lv_topi (fun v1 e2 => ?_)
  have b3 : iv 0 400 v1 := by rw [e2]; exact o.i 7 5 (at_ro (i := 0) ap0 (by decide) : ro p0 = 7)
  have b4 : iv 0 399 v1 := by rw [(e2.trans rfl), hs]; exact hr
  refine t_bald E G 20 (at_ro (i := 1) ap0 (by decide) : ro (p0 + 1) = 20) (by decide) (by decide) rfl (n := 400) rfl (iv_vp b4 (by decide) (by decide)) dX7_readSign_10 ?_
  refine lv_topi (fun v5 e6 => ?_)
  have b7 : iv (-128) 127 v5 := by rw [e6]; exact o.ac 20 (at_ro (i := 1) ap0 (by decide) : ro (p0 + 1) = 20) (by decide) _
  refine lv_sipush (v := 255) E.1 E.2.1 dX7_readSign_11 (by decide) ?_
  refine lv_iand E.1 E.2.1 dX7_readSign_14 ?_
  refine lv_topi (fun v8 e9 => ?_)
  have b10 : iv 0 255 v8 := by rw [e9]; exact iv_and (iv_lit (lo := 255) (hi := 255) 255 (by decide) (by decide)) (by decide)
  refine lv_i2c (v := v8) E.1 E.2.1 dX7_readSign_15 (by rw [e9]; exact sc_c2 _) ?_
  refine t_svi E G hl 1 (by decide) (j_io1 l D K ad z o v8 (iv_mono b10 (by decide) (by decide))) rfl 1 rfl mw_code_J0_indexOf_0f7a4 mw_ini_J0 mw_ml_7_67 mw_inst_J0_indexOf_0f7a4 mw_sel_J0_indexOf_0f7a4 hd_J0_indexOf_0f7a4 ⟨Nat.le_trans (by decide) hfr, Nat.le_trans (by decide) hlo⟩ rfl rfl rfl (Nat.le_of_ble_eq_true rfl) dX7_readSign_16 (fun r12 zz11 H locs hp13 G => ?_)
  obtain ⟨hz15, b14⟩ := hp13
  rw [hz15] at G
  refine lv_istore_n (lv' := [(1, .int r12), (0, .ref (ad p0))]) E.1 E.2.1 dX7_readSign_19 rfl hl (by decide) rfl (fun ls hl => ?_)
  refine lv_aload_n E.1 E.2.1 dX7_readSign_20 rfl (lv_at hl 1 rfl) ?_
  refine lv_iload_n E.1 E.2.1 dX7_readSign_21 rfl (lv_at hl 0 rfl) ?_
  refine lv_if_ge (tgt := 30) E.1 E.2.1 dX7_readSign_22 (by decide) (fun c16 => ?_) (fun c16 => ?_)
  · skip
    have b17 : iv 0 10 r12 := le_r c16 (iv_lit (lo := 0) (hi := 0) 0 (by decide) (by decide)) b14 (by decide)
    refine lv_bipush (v := 20) E.1 E.2.1 dX7_readSign_30 (by decide) ?_
    refine lv_iload_n E.1 E.2.1 dX7_readSign_32 rfl (lv_at hl 0 rfl) ?_
    refine lv_iadd E.1 E.2.1 dX7_readSign_33 ?_
    refine lv_topi (fun v18 e19 => ?_)
    have b20 : iv 20 30 v18 := by rw [e19]; exact iv_add (iv_lit (lo := 20) (hi := 20) 20 (by decide) (by decide)) b17 (by decide) (by decide) (by decide) (by decide)
    refine t_puti E G 7 3 (at_ro (i := 0) ap0 (by decide) : ro p0 = 7) (C := RX7) (T := TX7) (N := 7) rfl (by decide) (by decide) (by decide) rfl rfl mw_fl_7_22 rfl dX7_readSign_34 (fun H locs G => ?_)
    obtain ⟨zz21, G, oo22, kk23, h24, h25, h26⟩ : ∃ u : TS, mG D A s H locs (wd K ad u) ∧ Ok u ∧ KT z u ∧ tI u p0 5 = v1 ∧ tI u p0 6 = (tI z p0 6) ∧ tI u p0 3 = v18 := ⟨_, G, ok_i o 7 (at_ro (i := 0) ap0 (by decide) : ro p0 = 7) (iv_mono b20 (by decide) (by decide)) (by decide), KF.tr KF.rf (KF_i 7 (at_ro (i := 0) ap0 (by decide) : ro p0 = 7) (by decide)), (sI_k e2.symm (by decide)), (sI_k rfl (by decide)), sI_self⟩
    refine lv_aload_n E.1 E.2.1 dX7_readSign_37 rfl (lv_at hl 1 rfl) ?_
    refine lv_dup E.1 E.2.1 dX7_readSign_38 rfl ?_
    refine t_get E G 7 6 (at_ro (i := 0) ap0 (by decide) : ro p0 = 7) (C := RX7) (T := TX7) (N := 7) rfl (by decide) (by decide) (by decide) mw_fl_7_31 (fvl_i rfl) dX7_readSign_39 ?_
    refine lv_topi (fun v27 e28 => ?_)
    have b29 : iv 0 400 v27 := by rw [e28]; exact oo22.i 7 6 (at_ro (i := 0) ap0 (by decide) : ro p0 = 7)
    have b30 : iv 0 399 v27 := by rw [(e28.trans h25)]; exact hr
    refine lv_iconst (v := 1) E.1 E.2.1 dX7_readSign_42 (by decide) ?_
    refine lv_iadd E.1 E.2.1 dX7_readSign_43 ?_
    refine lv_topi (fun v31 e32 => ?_)
    have b33 : iv 1 400 v31 := by rw [e32]; exact iv_add b30 (iv_lit (lo := 1) (hi := 1) 1 (by decide) (by decide)) (by decide) (by decide) (by decide) (by decide)
    refine t_puti E G 7 6 (at_ro (i := 0) ap0 (by decide) : ro p0 = 7) (C := RX7) (T := TX7) (N := 7) rfl (by decide) (by decide) (by decide) rfl rfl mw_fl_7_31 rfl dX7_readSign_44 (fun H locs G => ?_)
    obtain ⟨zz34, G, oo35, kk36, h37, h38, h39⟩ : ∃ u : TS, mG D A s H locs (wd K ad u) ∧ Ok u ∧ KT z u ∧ tI u p0 5 = v1 ∧ tI u p0 3 = v18 ∧ tI u p0 6 = v31 := ⟨_, G, ok_i oo22 7 (at_ro (i := 0) ap0 (by decide) : ro p0 = 7) (iv_mono b33 (by decide) (by decide)) (by decide), KF.tr kk23 (KF_i 7 (at_ro (i := 0) ap0 (by decide) : ro p0 = 7) (by decide)), (sI_k h24 (by decide)), (sI_k h26 (by decide)), sI_self⟩
    refine lv_aload_n E.1 E.2.1 dX7_readSign_47 rfl (lv_at hl 1 rfl) ?_
    refine t_get E G 7 3 (at_ro (i := 0) ap0 (by decide) : ro p0 = 7) (C := RX7) (T := TX7) (N := 7) rfl (by decide) (by decide) (by decide) mw_fl_7_22 (fvl_i rfl) dX7_readSign_48 ?_
    refine m_ci v18 h38 ?_
    refine lv_bipush (v := 28) E.1 E.2.1 dX7_readSign_51 (by decide) ?_
    refine lv_icmp_eq (tgt := 65) E.1 E.2.1 dX7_readSign_53 (by decide) (fun c40 => ?_) (fun c40 => ?_)
    · skip
      have b41 : iv 28 28 v18 := iv_eq c40 (iv_lit (lo := 28) (hi := 28) 28 (by decide) (by decide))
      refine lv_aload_n E.1 E.2.1 dX7_readSign_65 rfl (lv_at hl 1 rfl) ?_
      refine t_get E G 7 6 (at_ro (i := 0) ap0 (by decide) : ro p0 = 7) (C := RX7) (T := TX7) (N := 7) rfl (by decide) (by decide) (by decide) mw_fl_7_31 (fvl_i rfl) dX7_readSign_66 ?_
      refine m_ci v31 h39 ?_
      refine lv_aload_n E.1 E.2.1 dX7_readSign_69 rfl (lv_at hl 1 rfl) ?_
      refine t_get E G 7 1 (at_ro (i := 0) ap0 (by decide) : ro p0 = 7) (C := RX7) (T := TX7) (N := 7) rfl (by decide) (by decide) (by decide) mw_fl_7_15 (fvl_i rfl) dX7_readSign_70 ?_
      refine lv_topi (fun v42 e43 => ?_)
      have b44 : iv 0 400 v42 := by rw [e43]; exact oo35.i 7 1 (at_ro (i := 0) ap0 (by decide) : ro p0 = 7)
      refine lv_icmp_ge (tgt := 120) E.1 E.2.1 dX7_readSign_73 (by decide) (fun c45 => ?_) (fun c45 => ?_)
      · skip
        exact RET G ⟨oo35, kk36⟩ dX7_readSign_120
      · skip
        have b46 : iv 1 399 v31 := lt_l (Int32.not_le.mp c45) b33 b44 (by decide)
        have b47 : iv 2 400 v42 := lt_r (Int32.not_le.mp c45) b33 b44 (by decide)
        refine lv_aload_n E.1 E.2.1 dX7_readSign_76 rfl (lv_at hl 1 rfl) ?_
        refine t_get E G 7 0 (at_ro (i := 0) ap0 (by decide) : ro p0 = 7) (C := RX7) (T := TX7) (N := 7) rfl (by decide) (by decide) (by decide) mw_fl_7_9 (v := .ref (ad (p0 + 1))) (fvl_o (n := 1) rfl) dX7_readSign_77 ?_
        refine lv_aload_n E.1 E.2.1 dX7_readSign_80 rfl (lv_at hl 1 rfl) ?_
        refine t_get E G 7 6 (at_ro (i := 0) ap0 (by decide) : ro p0 = 7) (C := RX7) (T := TX7) (N := 7) rfl (by decide) (by decide) (by decide) mw_fl_7_31 (fvl_i rfl) dX7_readSign_81 ?_
        refine m_ci v31 h39 ?_
        refine t_bald E G 20 (at_ro (i := 1) ap0 (by decide) : ro (p0 + 1) = 20) (by decide) (by decide) rfl (n := 400) rfl (iv_vp b46 (by decide) (by decide)) dX7_readSign_84 ?_
        refine lv_topi (fun v48 e49 => ?_)
        have b50 : iv (-128) 127 v48 := by rw [e49]; exact oo35.ac 20 (at_ro (i := 1) ap0 (by decide) : ro (p0 + 1) = 20) (by decide) _
        refine lv_bipush (v := 61) E.1 E.2.1 dX7_readSign_85 (by decide) ?_
        refine lv_icmp_ne (tgt := 120) E.1 E.2.1 dX7_readSign_87 (by decide) (fun c51 => ?_) (fun c51 => ?_)
        · skip
          exact RET G ⟨oo35, kk36⟩ dX7_readSign_120
        · skip
          have b52 : iv 61 61 v48 := iv_eq c51 (iv_lit (lo := 61) (hi := 61) 61 (by decide) (by decide))
          refine lv_aload_n E.1 E.2.1 dX7_readSign_90 rfl (lv_at hl 1 rfl) ?_
          refine lv_aload_n E.1 E.2.1 dX7_readSign_91 rfl (lv_at hl 1 rfl) ?_
          refine t_get E G 7 3 (at_ro (i := 0) ap0 (by decide) : ro p0 = 7) (C := RX7) (T := TX7) (N := 7) rfl (by decide) (by decide) (by decide) mw_fl_7_22 (fvl_i rfl) dX7_readSign_92 ?_
          refine m_ci v18 h38 ?_
          refine lv_bipush (v := 28) E.1 E.2.1 dX7_readSign_95 (by decide) ?_
          refine lv_icmp_ne (tgt := 105) E.1 E.2.1 dX7_readSign_97 (by decide) (fun h => absurd c40 h) (fun _ => ?_)
          refine lv_bipush (v := 31) E.1 E.2.1 dX7_readSign_100 (by decide) ?_
          refine lv_goto (tgt := 107) E.1 E.2.1 dX7_readSign_102 (by decide) ?_
          refine t_puti E G 7 3 (at_ro (i := 0) ap0 (by decide) : ro p0 = 7) (C := RX7) (T := TX7) (N := 7) rfl (by decide) (by decide) (by decide) rfl rfl mw_fl_7_22 rfl dX7_readSign_107 (fun H locs G => ?_)
          obtain ⟨zz53, G, oo54, kk55, h56, h57, h58, h59⟩ : ∃ u : TS, mG D A s H locs (wd K ad u) ∧ Ok u ∧ KT z u ∧ tI u p0 5 = v1 ∧ tI u p0 6 = v31 ∧ tI u p0 1 = v42 ∧ tI u p0 3 = 31 := ⟨_, G, ok_i oo35 7 (at_ro (i := 0) ap0 (by decide) : ro p0 = 7) (iv_mono (iv_lit (lo := 31) (hi := 31) 31 (by decide) (by decide)) (by decide) (by decide)) (by decide), KF.tr kk36 (KF_i 7 (at_ro (i := 0) ap0 (by decide) : ro p0 = 7) (by decide)), (sI_k h37 (by decide)), (sI_k h39 (by decide)), (sI_k e43.symm (by decide)), sI_self⟩
          refine lv_aload_n E.1 E.2.1 dX7_readSign_110 rfl (lv_at hl 1 rfl) ?_
          refine lv_dup E.1 E.2.1 dX7_readSign_111 rfl ?_
          refine t_get E G 7 6 (at_ro (i := 0) ap0 (by decide) : ro p0 = 7) (C := RX7) (T := TX7) (N := 7) rfl (by decide) (by decide) (by decide) mw_fl_7_31 (fvl_i rfl) dX7_readSign_112 ?_
          refine m_ci v31 h57 ?_
          refine lv_iconst (v := 1) E.1 E.2.1 dX7_readSign_115 (by decide) ?_
          refine lv_iadd E.1 E.2.1 dX7_readSign_116 ?_
          refine lv_topi (fun v60 e61 => ?_)
          have b62 : iv 2 400 v60 := by rw [e61]; exact iv_add b46 (iv_lit (lo := 1) (hi := 1) 1 (by decide) (by decide)) (by decide) (by decide) (by decide) (by decide)
          refine t_puti E G 7 6 (at_ro (i := 0) ap0 (by decide) : ro p0 = 7) (C := RX7) (T := TX7) (N := 7) rfl (by decide) (by decide) (by decide) rfl rfl mw_fl_7_31 rfl dX7_readSign_117 (fun H locs G => ?_)
          obtain ⟨zz63, G, oo64, kk65, h66, h67, h68, h69⟩ : ∃ u : TS, mG D A s H locs (wd K ad u) ∧ Ok u ∧ KT z u ∧ tI u p0 5 = v1 ∧ tI u p0 1 = v42 ∧ tI u p0 3 = 31 ∧ tI u p0 6 = v60 := ⟨_, G, ok_i oo54 7 (at_ro (i := 0) ap0 (by decide) : ro p0 = 7) (iv_mono b62 (by decide) (by decide)) (by decide), KF.tr kk55 (KF_i 7 (at_ro (i := 0) ap0 (by decide) : ro p0 = 7) (by decide)), (sI_k h56 (by decide)), (sI_k h58 (by decide)), (sI_k h59 (by decide)), sI_self⟩
          exact RET G ⟨oo64, kk65⟩ dX7_readSign_120
    · skip
      refine lv_aload_n E.1 E.2.1 dX7_readSign_56 rfl (lv_at hl 1 rfl) ?_
      refine t_get E G 7 3 (at_ro (i := 0) ap0 (by decide) : ro p0 = 7) (C := RX7) (T := TX7) (N := 7) rfl (by decide) (by decide) (by decide) mw_fl_7_22 (fvl_i rfl) dX7_readSign_57 ?_
      refine m_ci v18 h38 ?_
      refine lv_bipush (v := 30) E.1 E.2.1 dX7_readSign_60 (by decide) ?_
      refine lv_icmp_ne (tgt := 120) E.1 E.2.1 dX7_readSign_62 (by decide) (fun c70 => ?_) (fun c70 => ?_)
      · skip
        have b71 : iv 20 29 v18 := ne_hi c70 b20 (by decide) (by decide)
        exact RET G ⟨oo35, kk36⟩ dX7_readSign_120
      · skip
        have b72 : iv 30 30 v18 := iv_eq c70 (iv_lit (lo := 30) (hi := 30) 30 (by decide) (by decide))
        refine lv_aload_n E.1 E.2.1 dX7_readSign_65 rfl (lv_at hl 1 rfl) ?_
        refine t_get E G 7 6 (at_ro (i := 0) ap0 (by decide) : ro p0 = 7) (C := RX7) (T := TX7) (N := 7) rfl (by decide) (by decide) (by decide) mw_fl_7_31 (fvl_i rfl) dX7_readSign_66 ?_
        refine m_ci v31 h39 ?_
        refine lv_aload_n E.1 E.2.1 dX7_readSign_69 rfl (lv_at hl 1 rfl) ?_
        refine t_get E G 7 1 (at_ro (i := 0) ap0 (by decide) : ro p0 = 7) (C := RX7) (T := TX7) (N := 7) rfl (by decide) (by decide) (by decide) mw_fl_7_15 (fvl_i rfl) dX7_readSign_70 ?_
        refine lv_topi (fun v73 e74 => ?_)
        have b75 : iv 0 400 v73 := by rw [e74]; exact oo35.i 7 1 (at_ro (i := 0) ap0 (by decide) : ro p0 = 7)
        refine lv_icmp_ge (tgt := 120) E.1 E.2.1 dX7_readSign_73 (by decide) (fun c76 => ?_) (fun c76 => ?_)
        · skip
          exact RET G ⟨oo35, kk36⟩ dX7_readSign_120
        · skip
          have b77 : iv 1 399 v31 := lt_l (Int32.not_le.mp c76) b33 b75 (by decide)
          have b78 : iv 2 400 v73 := lt_r (Int32.not_le.mp c76) b33 b75 (by decide)
          refine lv_aload_n E.1 E.2.1 dX7_readSign_76 rfl (lv_at hl 1 rfl) ?_
          refine t_get E G 7 0 (at_ro (i := 0) ap0 (by decide) : ro p0 = 7) (C := RX7) (T := TX7) (N := 7) rfl (by decide) (by decide) (by decide) mw_fl_7_9 (v := .ref (ad (p0 + 1))) (fvl_o (n := 1) rfl) dX7_readSign_77 ?_
          refine lv_aload_n E.1 E.2.1 dX7_readSign_80 rfl (lv_at hl 1 rfl) ?_
          refine t_get E G 7 6 (at_ro (i := 0) ap0 (by decide) : ro p0 = 7) (C := RX7) (T := TX7) (N := 7) rfl (by decide) (by decide) (by decide) mw_fl_7_31 (fvl_i rfl) dX7_readSign_81 ?_
          refine m_ci v31 h39 ?_
          refine t_bald E G 20 (at_ro (i := 1) ap0 (by decide) : ro (p0 + 1) = 20) (by decide) (by decide) rfl (n := 400) rfl (iv_vp b77 (by decide) (by decide)) dX7_readSign_84 ?_
          refine lv_topi (fun v79 e80 => ?_)
          have b81 : iv (-128) 127 v79 := by rw [e80]; exact oo35.ac 20 (at_ro (i := 1) ap0 (by decide) : ro (p0 + 1) = 20) (by decide) _
          refine lv_bipush (v := 61) E.1 E.2.1 dX7_readSign_85 (by decide) ?_
          refine lv_icmp_ne (tgt := 120) E.1 E.2.1 dX7_readSign_87 (by decide) (fun c82 => ?_) (fun c82 => ?_)
          · skip
            exact RET G ⟨oo35, kk36⟩ dX7_readSign_120
          · skip
            have b83 : iv 61 61 v79 := iv_eq c82 (iv_lit (lo := 61) (hi := 61) 61 (by decide) (by decide))
            refine lv_aload_n E.1 E.2.1 dX7_readSign_90 rfl (lv_at hl 1 rfl) ?_
            refine lv_aload_n E.1 E.2.1 dX7_readSign_91 rfl (lv_at hl 1 rfl) ?_
            refine t_get E G 7 3 (at_ro (i := 0) ap0 (by decide) : ro p0 = 7) (C := RX7) (T := TX7) (N := 7) rfl (by decide) (by decide) (by decide) mw_fl_7_22 (fvl_i rfl) dX7_readSign_92 ?_
            refine m_ci v18 h38 ?_
            refine lv_bipush (v := 28) E.1 E.2.1 dX7_readSign_95 (by decide) ?_
            refine lv_icmp_ne (tgt := 105) E.1 E.2.1 dX7_readSign_97 (by decide) (fun _ => ?_) (fun h => absurd h (ivne2 b72 (iv_lit (lo := 28) (hi := 28) 28 (by decide) (by decide)) (by decide)))
            refine lv_bipush (v := 32) E.1 E.2.1 dX7_readSign_105 (by decide) ?_
            refine t_puti E G 7 3 (at_ro (i := 0) ap0 (by decide) : ro p0 = 7) (C := RX7) (T := TX7) (N := 7) rfl (by decide) (by decide) (by decide) rfl rfl mw_fl_7_22 rfl dX7_readSign_107 (fun H locs G => ?_)
            obtain ⟨zz84, G, oo85, kk86, h87, h88, h89, h90⟩ : ∃ u : TS, mG D A s H locs (wd K ad u) ∧ Ok u ∧ KT z u ∧ tI u p0 5 = v1 ∧ tI u p0 6 = v31 ∧ tI u p0 1 = v73 ∧ tI u p0 3 = 32 := ⟨_, G, ok_i oo35 7 (at_ro (i := 0) ap0 (by decide) : ro p0 = 7) (iv_mono (iv_lit (lo := 32) (hi := 32) 32 (by decide) (by decide)) (by decide) (by decide)) (by decide), KF.tr kk36 (KF_i 7 (at_ro (i := 0) ap0 (by decide) : ro p0 = 7) (by decide)), (sI_k h37 (by decide)), (sI_k h39 (by decide)), (sI_k e74.symm (by decide)), sI_self⟩
            refine lv_aload_n E.1 E.2.1 dX7_readSign_110 rfl (lv_at hl 1 rfl) ?_
            refine lv_dup E.1 E.2.1 dX7_readSign_111 rfl ?_
            refine t_get E G 7 6 (at_ro (i := 0) ap0 (by decide) : ro p0 = 7) (C := RX7) (T := TX7) (N := 7) rfl (by decide) (by decide) (by decide) mw_fl_7_31 (fvl_i rfl) dX7_readSign_112 ?_
            refine m_ci v31 h88 ?_
            refine lv_iconst (v := 1) E.1 E.2.1 dX7_readSign_115 (by decide) ?_
            refine lv_iadd E.1 E.2.1 dX7_readSign_116 ?_
            refine lv_topi (fun v91 e92 => ?_)
            have b93 : iv 2 400 v91 := by rw [e92]; exact iv_add b77 (iv_lit (lo := 1) (hi := 1) 1 (by decide) (by decide)) (by decide) (by decide) (by decide) (by decide)
            refine t_puti E G 7 6 (at_ro (i := 0) ap0 (by decide) : ro p0 = 7) (C := RX7) (T := TX7) (N := 7) rfl (by decide) (by decide) (by decide) rfl rfl mw_fl_7_31 rfl dX7_readSign_117 (fun H locs G => ?_)
            obtain ⟨zz94, G, oo95, kk96, h97, h98, h99, h100⟩ : ∃ u : TS, mG D A s H locs (wd K ad u) ∧ Ok u ∧ KT z u ∧ tI u p0 5 = v1 ∧ tI u p0 1 = v73 ∧ tI u p0 3 = 32 ∧ tI u p0 6 = v91 := ⟨_, G, ok_i oo85 7 (at_ro (i := 0) ap0 (by decide) : ro p0 = 7) (iv_mono b93 (by decide) (by decide)) (by decide), KF.tr kk86 (KF_i 7 (at_ro (i := 0) ap0 (by decide) : ro p0 = 7) (by decide)), (sI_k h87 (by decide)), (sI_k h89 (by decide)), (sI_k h90 (by decide)), sI_self⟩
            exact RET G ⟨oo95, kk96⟩ dX7_readSign_120
  · skip
    have b101 : iv (-1) (-1) r12 := lt_l (Int32.not_le.mp c16) b14 (iv_lit (lo := 0) (hi := 0) 0 (by decide) (by decide)) (by decide)
    refine lv_bipush (v := 41) E.1 E.2.1 dX7_readSign_25 (by decide) ?_
    refine lv_goto (tgt := 34) E.1 E.2.1 dX7_readSign_27 (by decide) ?_
    refine t_puti E G 7 3 (at_ro (i := 0) ap0 (by decide) : ro p0 = 7) (C := RX7) (T := TX7) (N := 7) rfl (by decide) (by decide) (by decide) rfl rfl mw_fl_7_22 rfl dX7_readSign_34 (fun H locs G => ?_)
    obtain ⟨zz102, G, oo103, kk104, h105, h106, h107⟩ : ∃ u : TS, mG D A s H locs (wd K ad u) ∧ Ok u ∧ KT z u ∧ tI u p0 5 = v1 ∧ tI u p0 6 = (tI z p0 6) ∧ tI u p0 3 = 41 := ⟨_, G, ok_i o 7 (at_ro (i := 0) ap0 (by decide) : ro p0 = 7) (iv_mono (iv_lit (lo := 41) (hi := 41) 41 (by decide) (by decide)) (by decide) (by decide)) (by decide), KF.tr KF.rf (KF_i 7 (at_ro (i := 0) ap0 (by decide) : ro p0 = 7) (by decide)), (sI_k e2.symm (by decide)), (sI_k rfl (by decide)), sI_self⟩
    refine lv_aload_n E.1 E.2.1 dX7_readSign_37 rfl (lv_at hl 1 rfl) ?_
    refine lv_dup E.1 E.2.1 dX7_readSign_38 rfl ?_
    refine t_get E G 7 6 (at_ro (i := 0) ap0 (by decide) : ro p0 = 7) (C := RX7) (T := TX7) (N := 7) rfl (by decide) (by decide) (by decide) mw_fl_7_31 (fvl_i rfl) dX7_readSign_39 ?_
    refine lv_topi (fun v108 e109 => ?_)
    have b110 : iv 0 400 v108 := by rw [e109]; exact oo103.i 7 6 (at_ro (i := 0) ap0 (by decide) : ro p0 = 7)
    have b111 : iv 0 399 v108 := by rw [(e109.trans h106)]; exact hr
    refine lv_iconst (v := 1) E.1 E.2.1 dX7_readSign_42 (by decide) ?_
    refine lv_iadd E.1 E.2.1 dX7_readSign_43 ?_
    refine lv_topi (fun v112 e113 => ?_)
    have b114 : iv 1 400 v112 := by rw [e113]; exact iv_add b111 (iv_lit (lo := 1) (hi := 1) 1 (by decide) (by decide)) (by decide) (by decide) (by decide) (by decide)
    refine t_puti E G 7 6 (at_ro (i := 0) ap0 (by decide) : ro p0 = 7) (C := RX7) (T := TX7) (N := 7) rfl (by decide) (by decide) (by decide) rfl rfl mw_fl_7_31 rfl dX7_readSign_44 (fun H locs G => ?_)
    obtain ⟨zz115, G, oo116, kk117, h118, h119, h120⟩ : ∃ u : TS, mG D A s H locs (wd K ad u) ∧ Ok u ∧ KT z u ∧ tI u p0 5 = v1 ∧ tI u p0 3 = 41 ∧ tI u p0 6 = v112 := ⟨_, G, ok_i oo103 7 (at_ro (i := 0) ap0 (by decide) : ro p0 = 7) (iv_mono b114 (by decide) (by decide)) (by decide), KF.tr kk104 (KF_i 7 (at_ro (i := 0) ap0 (by decide) : ro p0 = 7) (by decide)), (sI_k h105 (by decide)), (sI_k h107 (by decide)), sI_self⟩
    refine lv_aload_n E.1 E.2.1 dX7_readSign_47 rfl (lv_at hl 1 rfl) ?_
    refine t_get E G 7 3 (at_ro (i := 0) ap0 (by decide) : ro p0 = 7) (C := RX7) (T := TX7) (N := 7) rfl (by decide) (by decide) (by decide) mw_fl_7_22 (fvl_i rfl) dX7_readSign_48 ?_
    refine m_ci 41 h119 ?_
    refine lv_bipush (v := 28) E.1 E.2.1 dX7_readSign_51 (by decide) ?_
    refine lv_icmp_eq (tgt := 65) E.1 E.2.1 dX7_readSign_53 (by decide) (fun h => absurd h (by decide)) (fun _ => ?_)
    refine lv_aload_n E.1 E.2.1 dX7_readSign_56 rfl (lv_at hl 1 rfl) ?_
    refine t_get E G 7 3 (at_ro (i := 0) ap0 (by decide) : ro p0 = 7) (C := RX7) (T := TX7) (N := 7) rfl (by decide) (by decide) (by decide) mw_fl_7_22 (fvl_i rfl) dX7_readSign_57 ?_
    refine m_ci 41 h119 ?_
    refine lv_bipush (v := 30) E.1 E.2.1 dX7_readSign_60 (by decide) ?_
    refine lv_icmp_ne (tgt := 120) E.1 E.2.1 dX7_readSign_62 (by decide) (fun _ => ?_) (fun h => absurd h (by decide))
    exact RET G ⟨oo116, kk117⟩ dX7_readSign_120
