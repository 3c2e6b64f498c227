theorem mw_code_X7_readNumber : (Cond.code yX7_readNumber cX7_readNumber 1 none : Cond) ∈ cw := cw_of (List.mem_append_right _ (List.mem_append_right _ (List.mem_append_left _ (List.mem_of_getElem? (i := 223) rfl)))) (by decide +kernel)
theorem mw_code_X7_readSign : (Cond.code yX7_readSign cX7_readSign 2 none : Cond) ∈ cw := cw_of (List.mem_append_right _ (List.mem_append_right _ (List.mem_append_right _ (List.mem_append_left _ (List.mem_of_getElem? (i := 48) rfl))))) (by decide +kernel)
theorem mw_code_X7_readWord : (Cond.code yX7_readWord cX7_readWord 4 none : Cond) ∈ cw := cw_of (List.mem_append_right _ (List.mem_append_right _ (List.mem_append_left _ (List.mem_of_getElem? (i := 231) rfl)))) (by decide +kernel)
theorem mw_inst_X7_readNumber : (Cond.instanceMethod yX7_readNumber : Cond) ∈ cw := cw_of (List.mem_append_right _ (List.mem_append_right _ (List.mem_append_left _ (List.mem_of_getElem? (i := 222) (by decide +kernel))))) (by decide +kernel)
theorem mw_inst_X7_readSign : (Cond.instanceMethod yX7_readSign : Cond) ∈ cw := cw_of (List.mem_append_right _ (List.mem_append_right _ (List.mem_append_right _ (List.mem_append_left _ (List.mem_of_getElem? (i := 47) (by decide +kernel)))))) (by decide +kernel)
theorem mw_inst_X7_readWord : (Cond.instanceMethod yX7_readWord : Cond) ∈ cw := cw_of (List.mem_append_right _ (List.mem_append_right _ (List.mem_append_left _ (List.mem_of_getElem? (i := 230) (by decide +kernel))))) (by decide +kernel)
theorem mw_ml_7_38 : (Cond.methodLink RX7 38 yX7_readNumber : Cond) ∈ cw := cw_of (List.mem_append_right _ (List.mem_append_right _ (List.mem_append_left _ (List.mem_of_getElem? (i := 220) (by decide +kernel))))) (by decide +kernel)
theorem mw_ml_7_44 : (Cond.methodLink RX7 44 yX7_readWord : Cond) ∈ cw := cw_of (List.mem_append_right _ (List.mem_append_right _ (List.mem_append_left _ (List.mem_of_getElem? (i := 228) (by decide +kernel))))) (by decide +kernel)
theorem mw_ml_7_47 : (Cond.methodLink RX7 47 yX7_readSign : Cond) ∈ cw := cw_of (List.mem_append_right _ (List.mem_append_right _ (List.mem_append_right _ (List.mem_append_left _ (List.mem_of_getElem? (i := 45) (by decide +kernel)))))) (by decide +kernel)
theorem mw_sel_X7_readNumber : (Cond.selects RX7 yX7_readNumber yX7_readNumber : Cond) ∈ cw := cw_of (List.mem_append_left _ (List.mem_of_getElem? (i := 2) (by decide +kernel))) (by decide +kernel)
theorem mw_sel_X7_readSign : (Cond.selects RX7 yX7_readSign yX7_readSign : Cond) ∈ cw := cw_of (List.mem_append_left _ (List.mem_of_getElem? (i := 6) (by decide +kernel))) (by decide +kernel)
theorem mw_sel_X7_readWord : (Cond.selects RX7 yX7_readWord yX7_readWord : Cond) ∈ cw := cw_of (List.mem_append_left _ (List.mem_of_getElem? (i := 4) (by decide +kernel))) (by decide +kernel)
theorem dX7_readToken_0 : decode cX7_readToken 0 = .ok (.aload_n 0, 1) := by decide +kernel
theorem dX7_readToken_1 : decode cX7_readToken 1 = .ok (.getfield 31, 3) := by decide +kernel
theorem dX7_readToken_4 : decode cX7_readToken 4 = .ok (.aload_n 0, 1) := by decide +kernel
theorem dX7_readToken_5 : decode cX7_readToken 5 = .ok (.getfield 15, 3) := by decide +kernel
theorem dX7_readToken_8 : decode cX7_readToken 8 = .ok (.if_icmp .ge 30, 3) := by decide +kernel
theorem dX7_readToken_11 : decode cX7_readToken 11 = .ok (.aload_n 0, 1) := by decide +kernel
theorem dX7_readToken_12 : decode cX7_readToken 12 = .ok (.getfield 9, 3) := by decide +kernel
theorem dX7_readToken_15 : decode cX7_readToken 15 = .ok (.aload_n 0, 1) := by decide +kernel
theorem dX7_readToken_16 : decode cX7_readToken 16 = .ok (.getfield 31, 3) := by decide +kernel
theorem dX7_readToken_19 : decode cX7_readToken 19 = .ok (.baload, 1) := by decide +kernel
theorem dX7_readToken_20 : decode cX7_readToken 20 = .ok (.bipush 32, 2) := by decide +kernel
theorem dX7_readToken_22 : decode cX7_readToken 22 = .ok (.if_icmp .ne 16, 3) := by decide +kernel
theorem dX7_readToken_25 : decode cX7_readToken 25 = .ok (.aload_n 0, 1) := by decide +kernel
theorem dX7_readToken_26 : decode cX7_readToken 26 = .ok (.dup, 1) := by decide +kernel
theorem dX7_readToken_27 : decode cX7_readToken 27 = .ok (.getfield 31, 3) := by decide +kernel
theorem dX7_readToken_30 : decode cX7_readToken 30 = .ok (.iconst 1, 1) := by decide +kernel
theorem dX7_readToken_31 : decode cX7_readToken 31 = .ok (.iadd, 1) := by decide +kernel
theorem dX7_readToken_32 : decode cX7_readToken 32 = .ok (.putfield 31, 3) := by decide +kernel
theorem dX7_readToken_35 : decode cX7_readToken 35 = .ok (.goto (-35), 3) := by decide +kernel
theorem dX7_readToken_38 : decode cX7_readToken 38 = .ok (.aload_n 0, 1) := by decide +kernel
theorem dX7_readToken_39 : decode cX7_readToken 39 = .ok (.aload_n 0, 1) := by decide +kernel
theorem dX7_readToken_40 : decode cX7_readToken 40 = .ok (.getfield 31, 3) := by decide +kernel
theorem dX7_readToken_43 : decode cX7_readToken 43 = .ok (.putfield 28, 3) := by decide +kernel
theorem dX7_readToken_46 : decode cX7_readToken 46 = .ok (.aload_n 0, 1) := by decide +kernel
theorem dX7_readToken_47 : decode cX7_readToken 47 = .ok (.getfield 31, 3) := by decide +kernel
theorem dX7_readToken_50 : decode cX7_readToken 50 = .ok (.aload_n 0, 1) := by decide +kernel
theorem dX7_readToken_51 : decode cX7_readToken 51 = .ok (.getfield 15, 3) := by decide +kernel
theorem dX7_readToken_54 : decode cX7_readToken 54 = .ok (.if_icmp .lt 12, 3) := by decide +kernel
theorem dX7_readToken_57 : decode cX7_readToken 57 = .ok (.aload_n 0, 1) := by decide +kernel
theorem dX7_readToken_58 : decode cX7_readToken 58 = .ok (.bipush 40, 2) := by decide +kernel
theorem dX7_readToken_60 : decode cX7_readToken 60 = .ok (.putfield 22, 3) := by decide +kernel
theorem dX7_readToken_63 : decode cX7_readToken 63 = .ok (.goto 43, 3) := by decide +kernel
theorem dX7_readToken_66 : decode cX7_readToken 66 = .ok (.aload_n 0, 1) := by decide +kernel
theorem dX7_readToken_67 : decode cX7_readToken 67 = .ok (.aload_n 0, 1) := by decide +kernel
theorem dX7_readToken_68 : decode cX7_readToken 68 = .ok (.getfield 31, 3) := by decide +kernel
theorem dX7_readToken_71 : decode cX7_readToken 71 = .ok (.invokevirtual 34, 3) := by decide +kernel
theorem dX7_readToken_74 : decode cX7_readToken 74 = .ok (.ifCond .eq 10, 3) := by decide +kernel
theorem dX7_readToken_77 : decode cX7_readToken 77 = .ok (.aload_n 0, 1) := by decide +kernel
theorem dX7_readToken_78 : decode cX7_readToken 78 = .ok (.invokevirtual 38, 3) := by decide +kernel
theorem dX7_readToken_81 : decode cX7_readToken 81 = .ok (.goto 25, 3) := by decide +kernel
theorem dX7_readToken_84 : decode cX7_readToken 84 = .ok (.aload_n 0, 1) := by decide +kernel
theorem dX7_readToken_85 : decode cX7_readToken 85 = .ok (.aload_n 0, 1) := by decide +kernel
theorem dX7_readToken_86 : decode cX7_readToken 86 = .ok (.getfield 31, 3) := by decide +kernel
theorem dX7_readToken_89 : decode cX7_readToken 89 = .ok (.invokevirtual 41, 3) := by decide +kernel
theorem dX7_readToken_92 : decode cX7_readToken 92 = .ok (.ifCond .eq 10, 3) := by decide +kernel
theorem dX7_readToken_95 : decode cX7_readToken 95 = .ok (.aload_n 0, 1) := by decide +kernel
theorem dX7_readToken_96 : decode cX7_readToken 96 = .ok (.invokevirtual 44, 3) := by decide +kernel
theorem dX7_readToken_99 : decode cX7_readToken 99 = .ok (.goto 7, 3) := by decide +kernel
theorem dX7_readToken_102 : decode cX7_readToken 102 = .ok (.aload_n 0, 1) := by decide +kernel
theorem dX7_readToken_103 : decode cX7_readToken 103 = .ok (.invokevirtual 47, 3) := by decide +kernel
theorem dX7_readToken_106 : decode cX7_readToken 106 = .ok (.return_, 1) := by decide +kernel
theorem hd_X7_readNumber : yX7_readNumber.cls ≠ "java/lang/invoke/MethodHandle" ∧ yX7_readNumber.cls ≠ "java/lang/invoke/VarHandle" ∧ (parseMethodDescriptor yX7_readNumber.desc).map (fun d => d.parameters.length) = some 0 := ⟨by decide +kernel, by decide +kernel, by decide +kernel⟩
theorem hd_X7_readSign : yX7_readSign.cls ≠ "java/lang/invoke/MethodHandle" ∧ yX7_readSign.cls ≠ "java/lang/invoke/VarHandle" ∧ (parseMethodDescriptor yX7_readSign.desc).map (fun d => d.parameters.length) = some 0 := ⟨by decide +kernel, by decide +kernel, by decide +kernel⟩
theorem hd_X7_readWord : yX7_readWord.cls ≠ "java/lang/invoke/MethodHandle" ∧ yX7_readWord.cls ≠ "java/lang/invoke/VarHandle" ∧ (parseMethodDescriptor yX7_readWord.desc).map (fun d => d.parameters.length) = some 0 := ⟨by decide +kernel, by decide +kernel, by decide +kernel⟩
set_option maxHeartbeats 4000000 in
set_option maxRecDepth 100000 in
theorem tp_readToken (l : Launch) (D : va_G) (K : Nat → ClassId) (ad : Nat → Nat) (z : TS) (o : Ok z) (p0 : Nat) (ap0 : at_ 7 p0 = true) : cV l yX7_readToken cX7_readToken 1 ({ frames := 6, cells := 0, slots := 0, locals := 130 }) D K ad z [.ref (ad p0)] (fun u => Ok u ∧ KT z u) := by
  refine t_enterV (by decide) (Nat.le_of_ble_eq_true rfl) rfl rfl ?_
  intro p e s m args below meth c A R Q H locs ls E hfr hlo RET G hl
  have E : mE p s m meth c cX7_readToken args 1 RX7 D K A := E
  have hl : lv_has ls 1 [(0, .ref (ad p0))] := hl
  have LOOP0 : ∀ n : Nat, ∀ (zz1 : TS) (H : Heap) (locs : List Loc) (ls : Array Slot), mG D A s H locs (wd K ad zz1) → Ok zz1 → KT z zz1 → 400 < (tI zz1 p0 6).toInt + (n : Int) → lv_has ls 1 [(0, .ref (ad p0))] → W p l e R s m args below meth c H locs 0 0 Q (F0 m 0 ls []) := by
    intro n
    induction n with
    | zero =>
      intro zz1 H locs ls G oo2 kk3 m4 hl
      exact absurd m4 (by have := (iv_mono (oo2.i (j := p0) 7 6 (at_ro (i := 0) ap0 (by decide) : ro p0 = 7)) (show (0 : Int) ≤ ilo 7 6 by decide) (show ihi 7 6 ≤ 400 by decide)).2; omega)
    | succ n ih0 =>
      intro zz1 H locs ls G oo2 kk3 m4 hl
      refine lv_aload_n E.1 E.2.1 dX7_readToken_0 rfl (lv_at hl 0 rfl) ?_
      refine t_get E G 7 6 (at_ro (i := 0) ap0 (by decide) : ro p0 = 7) (C := RX7) (T := TX7) (N := 7) rfl (by decide) (by decide) (by decide) mw_fl_7_31 (fvl_i rfl) dX7_readToken_1 ?_
      refine lv_topi (fun v5 e6 => ?_)
      have b7 : iv 0 400 v5 := by rw [e6]; exact oo2.i 7 6 (at_ro (i := 0) ap0 (by decide) : ro p0 = 7)
      refine lv_aload_n E.1 E.2.1 dX7_readToken_4 rfl (lv_at hl 0 rfl) ?_
      refine t_get E G 7 1 (at_ro (i := 0) ap0 (by decide) : ro p0 = 7) (C := RX7) (T := TX7) (N := 7) rfl (by decide) (by decide) (by decide) mw_fl_7_15 (fvl_i rfl) dX7_readToken_5 ?_
      refine lv_topi (fun v8 e9 => ?_)
      have b10 : iv 0 400 v8 := by rw [e9]; exact oo2.i 7 1 (at_ro (i := 0) ap0 (by decide) : ro p0 = 7)
      refine lv_icmp_ge (tgt := 38) E.1 E.2.1 dX7_readToken_8 (by decide) (fun c11 => ?_) (fun c11 => ?_)
      · skip
        refine lv_aload_n E.1 E.2.1 dX7_readToken_38 rfl (lv_at hl 0 rfl) ?_
        refine lv_aload_n E.1 E.2.1 dX7_readToken_39 rfl (lv_at hl 0 rfl) ?_
        refine t_get E G 7 6 (at_ro (i := 0) ap0 (by decide) : ro p0 = 7) (C := RX7) (T := TX7) (N := 7) rfl (by decide) (by decide) (by decide) mw_fl_7_31 (fvl_i rfl) dX7_readToken_40 ?_
        refine m_ci v5 e6.symm ?_
        refine t_puti E G 7 5 (at_ro (i := 0) ap0 (by decide) : ro p0 = 7) (C := RX7) (T := TX7) (N := 7) rfl (by decide) (by decide) (by decide) rfl rfl mw_fl_7_28 rfl dX7_readToken_43 (fun H locs G => ?_)
        obtain ⟨zz12, G, oo13, kk14, h15, h16, h17⟩ : ∃ u : TS, mG D A s H locs (wd K ad u) ∧ Ok u ∧ KT z u ∧ tI u p0 6 = v5 ∧ tI u p0 1 = v8 ∧ tI u p0 5 = v5 := ⟨_, G, ok_i oo2 7 (at_ro (i := 0) ap0 (by decide) : ro p0 = 7) (iv_mono b7 (by decide) (by decide)) (by decide), KF.tr kk3 (KF_i 7 (at_ro (i := 0) ap0 (by decide) : ro p0 = 7) (by decide)), (sI_k e6.symm (by decide)), (sI_k e9.symm (by decide)), sI_self⟩
        refine lv_aload_n E.1 E.2.1 dX7_readToken_46 rfl (lv_at hl 0 rfl) ?_
        refine t_get E G 7 6 (at_ro (i := 0) ap0 (by decide) : ro p0 = 7) (C := RX7) (T := TX7) (N := 7) rfl (by decide) (by decide) (by decide) mw_fl_7_31 (fvl_i rfl) dX7_readToken_47 ?_
        refine m_ci v5 h15 ?_
        refine lv_aload_n E.1 E.2.1 dX7_readToken_50 rfl (lv_at hl 0 rfl) ?_
        refine t_get E G 7 1 (at_ro (i := 0) ap0 (by decide) : ro p0 = 7) (C := RX7) (T := TX7) (N := 7) rfl (by decide) (by decide) (by decide) mw_fl_7_15 (fvl_i rfl) dX7_readToken_51 ?_
        refine m_ci v8 h16 ?_
        refine lv_icmp_lt (tgt := 66) E.1 E.2.1 dX7_readToken_54 (by decide) (fun c18 => ?_) (fun c18 => ?_)
        · skip
          have b19 : iv 0 399 v5 := lt_l c18 b7 b10 (by decide)
          have b20 : iv 1 400 v8 := lt_r c18 b7 b10 (by decide)
          refine lv_aload_n E.1 E.2.1 dX7_readToken_66 rfl (lv_at hl 0 rfl) ?_
          refine lv_aload_n E.1 E.2.1 dX7_readToken_67 rfl (lv_at hl 0 rfl) ?_
          refine t_get E G 7 6 (at_ro (i := 0) ap0 (by decide) : ro p0 = 7) (C := RX7) (T := TX7) (N := 7) rfl (by decide) (by decide) (by decide) mw_fl_7_31 (fvl_i rfl) dX7_readToken_68 ?_
          refine m_ci v5 h15 ?_
          refine t_vi E G hl (tp_digitAt l D K ad zz12 oo13 p0 ap0 v5 (iv_mono b19 (by decide) (by decide))) 7 (at_ro (i := 0) ap0 (by decide) : ro p0 = 7) (by decide) rfl rfl 1 rfl mw_code_X7_digitAt mw_ini_7 mw_ml_7_34 mw_inst_X7_digitAt mw_sel_X7_digitAt hd_X7_digitAt ⟨Nat.le_trans (by decide) hfr, Nat.le_trans (by decide) hlo⟩ rfl rfl rfl (Nat.le_of_ble_eq_true rfl) dX7_readToken_71 (fun r22 zz21 H locs hp23 G => ?_)
          obtain ⟨hz26, b24, h25⟩ := hp23
          rw [hz26] at G
          refine lv_if_eq (tgt := 84) E.1 E.2.1 dX7_readToken_74 (by decide) (fun c27 => ?_) (fun c27 => ?_)
          · skip
            have b28 : iv 0 0 r22 := iv_eq c27 (iv_lit (lo := 0) (hi := 0) 0 (by decide) (by decide))
            refine lv_aload_n E.1 E.2.1 dX7_readToken_84 rfl (lv_at hl 0 rfl) ?_
            refine lv_aload_n E.1 E.2.1 dX7_readToken_85 rfl (lv_at hl 0 rfl) ?_
            refine t_get E G 7 6 (at_ro (i := 0) ap0 (by decide) : ro p0 = 7) (C := RX7) (T := TX7) (N := 7) rfl (by decide) (by decide) (by decide) mw_fl_7_31 (fvl_i rfl) dX7_readToken_86 ?_
            refine m_ci v5 h15 ?_
            refine t_vi E G hl (tp_letterAt l D K ad zz12 oo13 p0 ap0 v5 (iv_mono b19 (by decide) (by decide))) 7 (at_ro (i := 0) ap0 (by decide) : ro p0 = 7) (by decide) rfl rfl 1 rfl mw_code_X7_letterAt mw_ini_7 mw_ml_7_41 mw_inst_X7_letterAt mw_sel_X7_letterAt hd_X7_letterAt ⟨Nat.le_trans (by decide) hfr, Nat.le_trans (by decide) hlo⟩ rfl rfl rfl (Nat.le_of_ble_eq_true rfl) dX7_readToken_89 (fun r30 zz29 H locs hp31 G => ?_)
            obtain ⟨hz34, b32, h33⟩ := hp31
            rw [hz34] at G
            refine lv_if_eq (tgt := 102) E.1 E.2.1 dX7_readToken_92 (by decide) (fun c35 => ?_) (fun c35 => ?_)
            · skip
              have b36 : iv 0 0 r30 := iv_eq c35 (iv_lit (lo := 0) (hi := 0) 0 (by decide) (by decide))
              refine lv_aload_n E.1 E.2.1 dX7_readToken_102 rfl (lv_at hl 0 rfl) ?_
              refine t_vv E G hl (tp_readSign l D K ad zz12 oo13 p0 ap0 (by rw [h17, h15]) (by rw [h15]; exact iv_mono b19 (by decide) (by decide))) 7 (at_ro (i := 0) ap0 (by decide) : ro p0 = 7) (by decide) rfl rfl 0 rfl mw_code_X7_readSign mw_ini_7 mw_ml_7_47 mw_inst_X7_readSign mw_sel_X7_readSign hd_X7_readSign ⟨Nat.le_trans (by decide) hfr, Nat.le_trans (by decide) hlo⟩ rfl rfl rfl (Nat.le_of_ble_eq_true rfl) dX7_readToken_103 (fun zz37 H locs hp39 G => ?_)
              obtain ⟨oo40, kk41⟩ := hp39
              have kk42 : KT z zz37 := KF.tr kk14 kk41
              exact RET G ⟨oo40, kk42⟩ dX7_readToken_106
            · skip
              have b43 : iv 1 1 r30 := ne_lo c35 b32 (by decide) (by decide)
              refine lv_aload_n E.1 E.2.1 dX7_readToken_95 rfl (lv_at hl 0 rfl) ?_
              refine t_vv E G hl (tp_readWord l D K ad zz12 oo13 p0 ap0 (by rw [h17, h15])) 7 (at_ro (i := 0) ap0 (by decide) : ro p0 = 7) (by decide) rfl rfl 0 rfl mw_code_X7_readWord mw_ini_7 mw_ml_7_44 mw_inst_X7_readWord mw_sel_X7_readWord hd_X7_readWord ⟨Nat.le_trans (by decide) hfr, Nat.le_trans (by decide) hlo⟩ rfl rfl rfl (Nat.le_of_ble_eq_true rfl) dX7_readToken_96 (fun zz44 H locs hp46 G => ?_)
              obtain ⟨oo47, kk48⟩ := hp46
              have kk49 : KT z zz44 := KF.tr kk14 kk48
              refine lv_goto (tgt := 106) E.1 E.2.1 dX7_readToken_99 (by decide) ?_
              exact RET G ⟨oo47, kk49⟩ dX7_readToken_106
          · skip
            have b50 : iv 1 1 r22 := ne_lo c27 b24 (by decide) (by decide)
            refine lv_aload_n E.1 E.2.1 dX7_readToken_77 rfl (lv_at hl 0 rfl) ?_
            refine t_vv E G hl (tp_readNumber l D K ad zz12 oo13 p0 ap0 (by rw [h17, h15])) 7 (at_ro (i := 0) ap0 (by decide) : ro p0 = 7) (by decide) rfl rfl 0 rfl mw_code_X7_readNumber mw_ini_7 mw_ml_7_38 mw_inst_X7_readNumber mw_sel_X7_readNumber hd_X7_readNumber ⟨Nat.le_trans (by decide) hfr, Nat.le_trans (by decide) hlo⟩ rfl rfl rfl (Nat.le_of_ble_eq_true rfl) dX7_readToken_78 (fun zz51 H locs hp53 G => ?_)
            obtain ⟨oo54, kk55⟩ := hp53
            have kk56 : KT z zz51 := KF.tr kk14 kk55
            refine lv_goto (tgt := 106) E.1 E.2.1 dX7_readToken_81 (by decide) ?_
            exact RET G ⟨oo54, kk56⟩ dX7_readToken_106
        · skip
          refine lv_aload_n E.1 E.2.1 dX7_readToken_57 rfl (lv_at hl 0 rfl) ?_
          refine lv_bipush (v := 40) E.1 E.2.1 dX7_readToken_58 (by decide) ?_
          refine t_puti E G 7 3 (at_ro (i := 0) ap0 (by decide) : ro p0 = 7) (C := RX7) (T := TX7) (N := 7) rfl (by decide) (by decide) (by decide) rfl rfl mw_fl_7_22 rfl dX7_readToken_60 (fun H locs G => ?_)
          obtain ⟨zz57, G, oo58, kk59, h60, h61, h62, h63⟩ : ∃ u : TS, mG D A s H locs (wd K ad u) ∧ Ok u ∧ KT z u ∧ tI u p0 6 = v5 ∧ tI u p0 1 = v8 ∧ tI u p0 5 = v5 ∧ tI u p0 3 = 40 := ⟨_, G, ok_i oo13 7 (at_ro (i := 0) ap0 (by decide) : ro p0 = 7) (iv_mono (iv_lit (lo := 40) (hi := 40) 40 (by decide) (by decide)) (by decide) (by decide)) (by decide), KF.tr kk14 (KF_i 7 (at_ro (i := 0) ap0 (by decide) : ro p0 = 7) (by decide)), (sI_k h15 (by decide)), (sI_k h16 (by decide)), (sI_k h17 (by decide)), sI_self⟩
          refine lv_goto (tgt := 106) E.1 E.2.1 dX7_readToken_63 (by decide) ?_
          exact RET G ⟨oo58, kk59⟩ dX7_readToken_106
      · skip
        have b64 : iv 0 399 v5 := lt_l (Int32.not_le.mp c11) b7 b10 (by decide)
        have b65 : iv 1 400 v8 := lt_r (Int32.not_le.mp c11) b7 b10 (by decide)
        refine lv_aload_n E.1 E.2.1 dX7_readToken_11 rfl (lv_at hl 0 rfl) ?_
        refine t_get E G 7 0 (at_ro (i := 0) ap0 (by decide) : ro p0 = 7) (C := RX7) (T := TX7) (N := 7) rfl (by decide) (by decide) (by decide) mw_fl_7_9 (v := .ref (ad (p0 + 1))) (fvl_o (n := 1) rfl) dX7_readToken_12 ?_
        refine lv_aload_n E.1 E.2.1 dX7_readToken_15 rfl (lv_at hl 0 rfl) ?_
        refine t_get E G 7 6 (at_ro (i := 0) ap0 (by decide) : ro p0 = 7) (C := RX7) (T := TX7) (N := 7) rfl (by decide) (by decide) (by decide) mw_fl_7_31 (fvl_i rfl) dX7_readToken_16 ?_
        refine m_ci v5 e6.symm ?_
        refine t_bald E G 20 (at_ro (i := 1) ap0 (by decide) : ro (p0 + 1) = 20) (by decide) (by decide) rfl (n := 400) rfl (iv_vp b64 (by decide) (by decide)) dX7_readToken_19 ?_
        refine lv_topi (fun v66 e67 => ?_)
        have b68 : iv (-128) 127 v66 := by rw [e67]; exact oo2.ac 20 (at_ro (i := 1) ap0 (by decide) : ro (p0 + 1) = 20) (by decide) _
        refine lv_bipush (v := 32) E.1 E.2.1 dX7_readToken_20 (by decide) ?_
        refine lv_icmp_ne (tgt := 38) E.1 E.2.1 dX7_readToken_22 (by decide) (fun c69 => ?_) (fun c69 => ?_)
        · skip
          refine lv_aload_n E.1 E.2.1 dX7_readToken_38 rfl (lv_at hl 0 rfl) ?_
          refine lv_aload_n E.1 E.2.1 dX7_readToken_39 rfl (lv_at hl 0 rfl) ?_
          refine t_get E G 7 6 (at_ro (i := 0) ap0 (by decide) : ro p0 = 7) (C := RX7) (T := TX7) (N := 7) rfl (by decide) (by decide) (by decide) mw_fl_7_31 (fvl_i rfl) dX7_readToken_40 ?_
          refine m_ci v5 e6.symm ?_
          refine t_puti E G 7 5 (at_ro (i := 0) ap0 (by decide) : ro p0 = 7) (C := RX7) (T := TX7) (N := 7) rfl (by decide) (by decide) (by decide) rfl rfl mw_fl_7_28 rfl dX7_readToken_43 (fun H locs G => ?_)
          obtain ⟨zz70, G, oo71, kk72, h73, h74, h75⟩ : ∃ u : TS, mG D A s H locs (wd K ad u) ∧ Ok u ∧ KT z u ∧ tI u p0 6 = v5 ∧ tI u p0 1 = v8 ∧ tI u p0 5 = v5 := ⟨_, G, ok_i oo2 7 (at_ro (i := 0) ap0 (by decide) : ro p0 = 7) (iv_mono b64 (by decide) (by decide)) (by decide), KF.tr kk3 (KF_i 7 (at_ro (i := 0) ap0 (by decide) : ro p0 = 7) (by decide)), (sI_k e6.symm (by decide)), (sI_k e9.symm (by decide)), sI_self⟩
          refine lv_aload_n E.1 E.2.1 dX7_readToken_46 rfl (lv_at hl 0 rfl) ?_
          refine t_get E G 7 6 (at_ro (i := 0) ap0 (by decide) : ro p0 = 7) (C := RX7) (T := TX7) (N := 7) rfl (by decide) (by decide) (by decide) mw_fl_7_31 (fvl_i rfl) dX7_readToken_47 ?_
          refine m_ci v5 h73 ?_
          refine lv_aload_n E.1 E.2.1 dX7_readToken_50 rfl (lv_at hl 0 rfl) ?_
          refine t_get E G 7 1 (at_ro (i := 0) ap0 (by decide) : ro p0 = 7) (C := RX7) (T := TX7) (N := 7) rfl (by decide) (by decide) (by decide) mw_fl_7_15 (fvl_i rfl) dX7_readToken_51 ?_
          refine m_ci v8 h74 ?_
          refine lv_icmp_lt (tgt := 66) E.1 E.2.1 dX7_readToken_54 (by decide) (fun c76 => ?_) (fun c76 => ?_)
          · skip
            refine lv_aload_n E.1 E.2.1 dX7_readToken_66 rfl (lv_at hl 0 rfl) ?_
            refine lv_aload_n E.1 E.2.1 dX7_readToken_67 rfl (lv_at hl 0 rfl) ?_
            refine t_get E G 7 6 (at_ro (i := 0) ap0 (by decide) : ro p0 = 7) (C := RX7) (T := TX7) (N := 7) rfl (by decide) (by decide) (by decide) mw_fl_7_31 (fvl_i rfl) dX7_readToken_68 ?_
            refine m_ci v5 h73 ?_
            refine t_vi E G hl (tp_digitAt l D K ad zz70 oo71 p0 ap0 v5 (iv_mono b64 (by decide) (by decide))) 7 (at_ro (i := 0) ap0 (by decide) : ro p0 = 7) (by decide) rfl rfl 1 rfl mw_code_X7_digitAt mw_ini_7 mw_ml_7_34 mw_inst_X7_digitAt mw_sel_X7_digitAt hd_X7_digitAt ⟨Nat.le_trans (by decide) hfr, Nat.le_trans (by decide) hlo⟩ rfl rfl rfl (Nat.le_of_ble_eq_true rfl) dX7_readToken_71 (fun r78 zz77 H locs hp79 G => ?_)
            obtain ⟨hz82, b80, h81⟩ := hp79
            rw [hz82] at G
            refine lv_if_eq (tgt := 84) E.1 E.2.1 dX7_readToken_74 (by decide) (fun c83 => ?_) (fun c83 => ?_)
            · skip
              have b84 : iv 0 0 r78 := iv_eq c83 (iv_lit (lo := 0) (hi := 0) 0 (by decide) (by decide))
              refine lv_aload_n E.1 E.2.1 dX7_readToken_84 rfl (lv_at hl 0 rfl) ?_
              refine lv_aload_n E.1 E.2.1 dX7_readToken_85 rfl (lv_at hl 0 rfl) ?_
              refine t_get E G 7 6 (at_ro (i := 0) ap0 (by decide) : ro p0 = 7) (C := RX7) (T := TX7) (N := 7) rfl (by decide) (by decide) (by decide) mw_fl_7_31 (fvl_i rfl) dX7_readToken_86 ?_
              refine m_ci v5 h73 ?_
              refine t_vi E G hl (tp_letterAt l D K ad zz70 oo71 p0 ap0 v5 (iv_mono b64 (by decide) (by decide))) 7 (at_ro (i := 0) ap0 (by decide) : ro p0 = 7) (by decide) rfl rfl 1 rfl mw_code_X7_letterAt mw_ini_7 mw_ml_7_41 mw_inst_X7_letterAt mw_sel_X7_letterAt hd_X7_letterAt ⟨Nat.le_trans (by decide) hfr, Nat.le_trans (by decide) hlo⟩ rfl rfl rfl (Nat.le_of_ble_eq_true rfl) dX7_readToken_89 (fun r86 zz85 H locs hp87 G => ?_)
              obtain ⟨hz90, b88, h89⟩ := hp87
              rw [hz90] at G
              refine lv_if_eq (tgt := 102) E.1 E.2.1 dX7_readToken_92 (by decide) (fun c91 => ?_) (fun c91 => ?_)
              · skip
                have b92 : iv 0 0 r86 := iv_eq c91 (iv_lit (lo := 0) (hi := 0) 0 (by decide) (by decide))
                refine lv_aload_n E.1 E.2.1 dX7_readToken_102 rfl (lv_at hl 0 rfl) ?_
                refine t_vv E G hl (tp_readSign l D K ad zz70 oo71 p0 ap0 (by rw [h75, h73]) (by rw [h73]; exact iv_mono b64 (by decide) (by decide))) 7 (at_ro (i := 0) ap0 (by decide) : ro p0 = 7) (by decide) rfl rfl 0 rfl mw_code_X7_readSign mw_ini_7 mw_ml_7_47 mw_inst_X7_readSign mw_sel_X7_readSign hd_X7_readSign ⟨Nat.le_trans (by decide) hfr, Nat.le_trans (by decide) hlo⟩ rfl rfl rfl (Nat.le_of_ble_eq_true rfl) dX7_readToken_103 (fun zz93 H locs hp95 G => ?_)
                obtain ⟨oo96, kk97⟩ := hp95
                have kk98 : KT z zz93 := KF.tr kk72 kk97
                exact RET G ⟨oo96, kk98⟩ dX7_readToken_106
              · skip
                have b99 : iv 1 1 r86 := ne_lo c91 b88 (by decide) (by decide)
                refine lv_aload_n E.1 E.2.1 dX7_readToken_95 rfl (lv_at hl 0 rfl) ?_
                refine t_vv E G hl (tp_readWord l D K ad zz70 oo71 p0 ap0 (by rw [h75, h73])) 7 (at_ro (i := 0) ap0 (by decide) : ro p0 = 7) (by decide) rfl rfl 0 rfl mw_code_X7_readWord mw_ini_7 mw_ml_7_44 mw_inst_X7_readWord mw_sel_X7_readWord hd_X7_readWord ⟨Nat.le_trans (by decide) hfr, Nat.le_trans (by decide) hlo⟩ rfl rfl rfl (Nat.le_of_ble_eq_true rfl) dX7_readToken_96 (fun zz100 H locs hp102 G => ?_)
                obtain ⟨oo103, kk104⟩ := hp102
                have kk105 : KT z zz100 := KF.tr kk72 kk104
                refine lv_goto (tgt := 106) E.1 E.2.1 dX7_readToken_99 (by decide) ?_
                exact RET G ⟨oo103, kk105⟩ dX7_readToken_106
            · skip
              have b106 : iv 1 1 r78 := ne_lo c83 b80 (by decide) (by decide)
              refine lv_aload_n E.1 E.2.1 dX7_readToken_77 rfl (lv_at hl 0 rfl) ?_
              refine t_vv E G hl (tp_readNumber l D K ad zz70 oo71 p0 ap0 (by rw [h75, h73])) 7 (at_ro (i := 0) ap0 (by decide) : ro p0 = 7) (by decide) rfl rfl 0 rfl mw_code_X7_readNumber mw_ini_7 mw_ml_7_38 mw_inst_X7_readNumber mw_sel_X7_readNumber hd_X7_readNumber ⟨Nat.le_trans (by decide) hfr, Nat.le_trans (by decide) hlo⟩ rfl rfl rfl (Nat.le_of_ble_eq_true rfl) dX7_readToken_78 (fun zz107 H locs hp109 G => ?_)
              obtain ⟨oo110, kk111⟩ := hp109
              have kk112 : KT z zz107 := KF.tr kk72 kk111
              refine lv_goto (tgt := 106) E.1 E.2.1 dX7_readToken_81 (by decide) ?_
              exact RET G ⟨oo110, kk112⟩ dX7_readToken_106
          · skip
            have b113 : iv 1 399 v8 := le_l (Int32.not_lt.mp c76) b65 b64 (by decide)
            have b114 : iv 1 399 v5 := le_r (Int32.not_lt.mp c76) b65 b64 (by decide)
            refine lv_aload_n E.1 E.2.1 dX7_readToken_57 rfl (lv_at hl 0 rfl) ?_
            refine lv_bipush (v := 40) E.1 E.2.1 dX7_readToken_58 (by decide) ?_
            refine t_puti E G 7 3 (at_ro (i := 0) ap0 (by decide) : ro p0 = 7) (C := RX7) (T := TX7) (N := 7) rfl (by decide) (by decide) (by decide) rfl rfl mw_fl_7_22 rfl dX7_readToken_60 (fun H locs G => ?_)
            obtain ⟨zz115, G, oo116, kk117, h118, h119, h120, h121⟩ : ∃ u : TS, mG D A s H locs (wd K ad u) ∧ Ok u ∧ KT z u ∧ tI u p0 6 = v5 ∧ tI u p0 1 = v8 ∧ tI u p0 5 = v5 ∧ tI u p0 3 = 40 := ⟨_, G, ok_i oo71 7 (at_ro (i := 0) ap0 (by decide) : ro p0 = 7) (iv_mono (iv_lit (lo := 40) (hi := 40) 40 (by decide) (by decide)) (by decide) (by decide)) (by decide), KF.tr kk72 (KF_i 7 (at_ro (i := 0) ap0 (by decide) : ro p0 = 7) (by decide)), (sI_k h73 (by decide)), (sI_k h74 (by decide)), (sI_k h75 (by decide)), sI_self⟩
            refine lv_goto (tgt := 106) E.1 E.2.1 dX7_readToken_63 (by decide) ?_
            exact RET G ⟨oo116, kk117⟩ dX7_readToken_106
        · skip
          have b122 : iv 32 32 v66 := iv_eq c69 (iv_lit (lo := 32) (hi := 32) 32 (by decide) (by decide))
          refine lv_aload_n E.1 E.2.1 dX7_readToken_25 rfl (lv_at hl 0 rfl) ?_
          refine lv_dup E.1 E.2.1 dX7_readToken_26 rfl ?_
          refine t_get E G 7 6 (at_ro (i := 0) ap0 (by decide) : ro p0 = 7) (C := RX7) (T := TX7) (N := 7) rfl (by decide) (by decide) (by decide) mw_fl_7_31 (fvl_i rfl) dX7_readToken_27 ?_
          refine m_ci v5 e6.symm ?_
          refine lv_iconst (v := 1) E.1 E.2.1 dX7_readToken_30 (by decide) ?_
          refine lv_iadd E.1 E.2.1 dX7_readToken_31 ?_
          refine lv_topi (fun v123 e124 => ?_)
          have b125 : iv 1 400 v123 := by rw [e124]; exact iv_add b64 (iv_lit (lo := 1) (hi := 1) 1 (by decide) (by decide)) (by decide) (by decide) (by decide) (by decide)
          refine t_puti E G 7 6 (at_ro (i := 0) ap0 (by decide) : ro p0 = 7) (C := RX7) (T := TX7) (N := 7) rfl (by decide) (by decide) (by decide) rfl rfl mw_fl_7_31 rfl dX7_readToken_32 (fun H locs G => ?_)
          obtain ⟨zz126, G, oo127, kk128, h129, h130⟩ : ∃ u : TS, mG D A s H locs (wd K ad u) ∧ Ok u ∧ KT z u ∧ tI u p0 1 = v8 ∧ tI u p0 6 = v123 := ⟨_, G, ok_i oo2 7 (at_ro (i := 0) ap0 (by decide) : ro p0 = 7) (iv_mono b125 (by decide) (by decide)) (by decide), KF.tr kk3 (KF_i 7 (at_ro (i := 0) ap0 (by decide) : ro p0 = 7) (by decide)), (sI_k e9.symm (by decide)), sI_self⟩
          refine lv_goto (tgt := 0) E.1 E.2.1 dX7_readToken_35 (by decide) ?_
          exact ih0 zz126 H locs ls G oo127 kk128 (by rw [h130, e124, ti_addc 1 (by decide) b64 (by decide) (by decide), e6]; have := m4; omega) (lv_sub hl [0] rfl)
  exact LOOP0 401 z H locs ls G o KF.rf (by have := (iv_mono (o.i (j := p0) 7 6 (at_ro (i := 0) ap0 (by decide) : ro p0 = 7)) (show (0 : Int) ≤ ilo 7 6 by decide) (show ihi 7 6 ≤ 400 by decide)).1; omega) (lv_sub hl [0] rfl)
