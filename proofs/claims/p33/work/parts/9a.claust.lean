theorem mw_code_X11_isTownWord : (Cond.code yX11_isTownWord cX11_isTownWord 1 (some .boolean) : Cond) ∈ cw := cw_of (List.mem_append_right _ (List.mem_append_right _ (List.mem_append_right _ (List.mem_append_right _ (List.mem_append_right _ (List.mem_append_right _ (List.mem_append_left _ (List.mem_of_getElem? (i := 11) rfl)))))))) (by decide +kernel)
theorem mw_code_X11_townLineHere : (Cond.code yX11_townLineHere cX11_townLineHere 2 (some .boolean) : Cond) ∈ cw := cw_of (List.mem_append_right _ (List.mem_append_right _ (List.mem_append_right _ (List.mem_append_right _ (List.mem_append_right _ (List.mem_append_right _ (List.mem_append_left _ (List.mem_of_getElem? (i := 32) rfl)))))))) (by decide +kernel)
theorem mw_fl_11_147 : (Cond.fieldLink RX11 147 "LureTownModel" "text" "I" : Cond) ∈ cw := cw_of (List.mem_append_right _ (List.mem_append_right _ (List.mem_append_right _ (List.mem_append_right _ (List.mem_append_right _ (List.mem_append_left _ (List.mem_of_getElem? (i := 118) (by decide +kernel)))))))) (by decide +kernel)
theorem mw_fl_11_246 : (Cond.fieldLink RX11 246 "LureTownModel" "lines" "I" : Cond) ∈ cw := cw_of (List.mem_append_right _ (List.mem_append_right _ (List.mem_append_right _ (List.mem_append_right _ (List.mem_append_right _ (List.mem_append_left _ (List.mem_of_getElem? (i := 121) (by decide +kernel)))))))) (by decide +kernel)
theorem mw_inst_X11_isTownWord : (Cond.instanceMethod yX11_isTownWord : Cond) ∈ cw := cw_of (List.mem_append_right _ (List.mem_append_right _ (List.mem_append_right _ (List.mem_append_right _ (List.mem_append_right _ (List.mem_append_right _ (List.mem_append_left _ (List.mem_of_getElem? (i := 10) (by decide +kernel))))))))) (by decide +kernel)
theorem mw_inst_X11_townLineHere : (Cond.instanceMethod yX11_townLineHere : Cond) ∈ cw := cw_of (List.mem_append_right _ (List.mem_append_right _ (List.mem_append_right _ (List.mem_append_right _ (List.mem_append_right _ (List.mem_append_right _ (List.mem_append_left _ (List.mem_of_getElem? (i := 31) (by decide +kernel))))))))) (by decide +kernel)
theorem mw_ml_11_241 : (Cond.methodLink RX11 241 yX11_isTownWord : Cond) ∈ cw := cw_of (List.mem_append_right _ (List.mem_append_right _ (List.mem_append_right _ (List.mem_append_right _ (List.mem_append_right _ (List.mem_append_right _ (List.mem_append_left _ (List.mem_of_getElem? (i := 8) (by decide +kernel))))))))) (by decide +kernel)
theorem mw_ml_11_249 : (Cond.methodLink RX11 249 yX11_townLineHere : Cond) ∈ cw := cw_of (List.mem_append_right _ (List.mem_append_right _ (List.mem_append_right _ (List.mem_append_right _ (List.mem_append_right _ (List.mem_append_right _ (List.mem_append_left _ (List.mem_of_getElem? (i := 29) (by decide +kernel))))))))) (by decide +kernel)
theorem mw_sel_X11_isTownWord : (Cond.selects RX11 yX11_isTownWord yX11_isTownWord : Cond) ∈ cw := cw_of (List.mem_append_left _ (List.mem_of_getElem? (i := 51) (by decide +kernel))) (by decide +kernel)
theorem mw_sel_X11_townLineHere : (Cond.selects RX11 yX11_townLineHere yX11_townLineHere : Cond) ∈ cw := cw_of (List.mem_append_left _ (List.mem_of_getElem? (i := 55) (by decide +kernel))) (by decide +kernel)
theorem dX11_clauseHere_0 : decode cX11_clauseHere 0 = .ok (.aload_n 0, 1) := by decide +kernel
theorem dX11_clauseHere_1 : decode cX11_clauseHere 1 = .ok (.invokevirtual 96, 3) := by decide +kernel
theorem dX11_clauseHere_4 : decode cX11_clauseHere 4 = .ok (.pop, 1) := by decide +kernel
theorem dX11_clauseHere_5 : decode cX11_clauseHere 5 = .ok (.aload_n 0, 1) := by decide +kernel
theorem dX11_clauseHere_6 : decode cX11_clauseHere 6 = .ok (.getfield 93, 3) := by decide +kernel
theorem dX11_clauseHere_9 : decode cX11_clauseHere 9 = .ok (.istore_n 1, 1) := by decide +kernel
theorem dX11_clauseHere_10 : decode cX11_clauseHere 10 = .ok (.aload_n 0, 1) := by decide +kernel
theorem dX11_clauseHere_11 : decode cX11_clauseHere 11 = .ok (.getfield 147, 3) := by decide +kernel
theorem dX11_clauseHere_14 : decode cX11_clauseHere 14 = .ok (.bipush 6, 2) := by decide +kernel
theorem dX11_clauseHere_16 : decode cX11_clauseHere 16 = .ok (.if_icmp .ne 7, 3) := by decide +kernel
theorem dX11_clauseHere_19 : decode cX11_clauseHere 19 = .ok (.iconst 1, 1) := by decide +kernel
theorem dX11_clauseHere_20 : decode cX11_clauseHere 20 = .ok (.goto 4, 3) := by decide +kernel
theorem dX11_clauseHere_24 : decode cX11_clauseHere 24 = .ok (.istore_n 2, 1) := by decide +kernel
theorem dX11_clauseHere_25 : decode cX11_clauseHere 25 = .ok (.iload_n 2, 1) := by decide +kernel
theorem dX11_clauseHere_26 : decode cX11_clauseHere 26 = .ok (.ifCond .eq 13, 3) := by decide +kernel
theorem dX11_clauseHere_29 : decode cX11_clauseHere 29 = .ok (.aload_n 0, 1) := by decide +kernel
theorem dX11_clauseHere_30 : decode cX11_clauseHere 30 = .ok (.invokevirtual 241, 3) := by decide +kernel
theorem dX11_clauseHere_33 : decode cX11_clauseHere 33 = .ok (.ifCond .ne 23, 3) := by decide +kernel
theorem dX11_clauseHere_36 : decode cX11_clauseHere 36 = .ok (.goto 13, 3) := by decide +kernel
theorem dX11_clauseHere_49 : decode cX11_clauseHere 49 = .ok (.aload_n 0, 1) := by decide +kernel
theorem dX11_clauseHere_50 : decode cX11_clauseHere 50 = .ok (.iconst 0, 1) := by decide +kernel
theorem dX11_clauseHere_51 : decode cX11_clauseHere 51 = .ok (.iload_n 1, 1) := by decide +kernel
theorem dX11_clauseHere_52 : decode cX11_clauseHere 52 = .ok (.invokevirtual 114, 3) := by decide +kernel
theorem dX11_clauseHere_55 : decode cX11_clauseHere 55 = .ok (.ireturn, 1) := by decide +kernel
theorem dX11_clauseHere_56 : decode cX11_clauseHere 56 = .ok (.aload_n 0, 1) := by decide +kernel
theorem dX11_clauseHere_57 : decode cX11_clauseHere 57 = .ok (.getfield 246, 3) := by decide +kernel
theorem dX11_clauseHere_60 : decode cX11_clauseHere 60 = .ok (.iload_n 2, 1) := by decide +kernel
theorem dX11_clauseHere_61 : decode cX11_clauseHere 61 = .ok (.ifCond .eq 8, 3) := by decide +kernel
theorem dX11_clauseHere_64 : decode cX11_clauseHere 64 = .ok (.bipush 40, 2) := by decide +kernel
theorem dX11_clauseHere_66 : decode cX11_clauseHere 66 = .ok (.goto 5, 3) := by decide +kernel
theorem dX11_clauseHere_71 : decode cX11_clauseHere 71 = .ok (.if_icmp .ne 10, 3) := by decide +kernel
theorem dX11_clauseHere_74 : decode cX11_clauseHere 74 = .ok (.aload_n 0, 1) := by decide +kernel
theorem dX11_clauseHere_75 : decode cX11_clauseHere 75 = .ok (.iconst 4, 1) := by decide +kernel
theorem dX11_clauseHere_76 : decode cX11_clauseHere 76 = .ok (.iload_n 1, 1) := by decide +kernel
theorem dX11_clauseHere_77 : decode cX11_clauseHere 77 = .ok (.invokevirtual 114, 3) := by decide +kernel
theorem dX11_clauseHere_80 : decode cX11_clauseHere 80 = .ok (.ireturn, 1) := by decide +kernel
theorem dX11_clauseHere_81 : decode cX11_clauseHere 81 = .ok (.aload_n 0, 1) := by decide +kernel
theorem dX11_clauseHere_82 : decode cX11_clauseHere 82 = .ok (.dup, 1) := by decide +kernel
theorem dX11_clauseHere_83 : decode cX11_clauseHere 83 = .ok (.getfield 246, 3) := by decide +kernel
theorem dX11_clauseHere_86 : decode cX11_clauseHere 86 = .ok (.iconst 1, 1) := by decide +kernel
theorem dX11_clauseHere_87 : decode cX11_clauseHere 87 = .ok (.iadd, 1) := by decide +kernel
theorem dX11_clauseHere_88 : decode cX11_clauseHere 88 = .ok (.putfield 246, 3) := by decide +kernel
theorem dX11_clauseHere_91 : decode cX11_clauseHere 91 = .ok (.iload_n 2, 1) := by decide +kernel
theorem dX11_clauseHere_92 : decode cX11_clauseHere 92 = .ok (.ifCond .eq 11, 3) := by decide +kernel
theorem dX11_clauseHere_95 : decode cX11_clauseHere 95 = .ok (.aload_n 0, 1) := by decide +kernel
theorem dX11_clauseHere_96 : decode cX11_clauseHere 96 = .ok (.iload_n 1, 1) := by decide +kernel
theorem dX11_clauseHere_97 : decode cX11_clauseHere 97 = .ok (.invokevirtual 249, 3) := by decide +kernel
theorem dX11_clauseHere_100 : decode cX11_clauseHere 100 = .ok (.goto 7, 3) := by decide +kernel
theorem dX11_clauseHere_107 : decode cX11_clauseHere 107 = .ok (.ireturn, 1) := by decide +kernel
theorem hd_X11_isTownWord : yX11_isTownWord.cls ≠ "java/lang/invoke/MethodHandle" ∧ yX11_isTownWord.cls ≠ "java/lang/invoke/VarHandle" ∧ (parseMethodDescriptor yX11_isTownWord.desc).map (fun d => d.parameters.length) = some 0 := ⟨by decide +kernel, by decide +kernel, by decide +kernel⟩
theorem hd_X11_townLineHere : yX11_townLineHere.cls ≠ "java/lang/invoke/MethodHandle" ∧ yX11_townLineHere.cls ≠ "java/lang/invoke/VarHandle" ∧ (parseMethodDescriptor yX11_townLineHere.desc).map (fun d => d.parameters.length) = some 1 := ⟨by decide +kernel, by decide +kernel, by decide +kernel⟩
set_option maxHeartbeats 4000000 in
set_option maxRecDepth 100000 in
theorem v_clauseT (l : Launch) (D : va_G) (K : Nat → ClassId) (ad : Nat → Nat) (z : TS) (o : Ok z) (hn : NXx z) (ht : iv 6 6 (tI z 386 11)) : cI l yX11_clauseHere cX11_clauseHere 3 .boolean ({ frames := 5, cells := 0, slots := 0, locals := 115 }) D K ad z [.ref (ad 386)] (fun r u => Ok u ∧ KTn z u ∧ iv 0 1 r ∧ (Scx z u)) := by
  have sc0 : Scx z z := Scx.rf hn
  refine t_enterI (by decide) (Nat.le_of_ble_eq_true rfl) rfl rfl ?_
  intro p e s m args below meth c A R Q H locs ls E hfr hlo RET G hl
  have E : mE p s m meth c cX11_clauseHere args 3 RX11 D K A := E
  have hl : lv_has ls 3 [(0, .ref (ad 386))] := hl
  refine lv_aload_n E.1 E.2.1 dX11_clauseHere_0 rfl (lv_at hl 0 rfl) ?_
  refine t_vi E G hl (v_see l D K ad z o sc0.1) 11 (rfl : ro 386 = 11) (by decide) rfl rfl 0 rfl mw_code_X11_see mw_ini_11 mw_ml_11_96 mw_inst_X11_see mw_sel_X11_see hd_X11_see ⟨Nat.le_trans (by decide) hfr, Nat.le_trans (by decide) hlo⟩ rfl rfl rfl (Nat.le_of_ble_eq_true rfl) dX11_clauseHere_1 (fun r2 zz1 H locs hp3 G => ?_)
  obtain ⟨oo4, kk5, b6, h7, h8, h9, h10⟩ := hp3
  have kk11 : KTn z zz1 := KF.tr KF.rf (KN8.t kk5)
  have h12 : tI zz1 386 11 = (tI z 386 11) := KF.i kk5 11 (rfl : ro 386 = 11) (by decide) rfl
  have h13 := Scx.tr sc0 h7
  refine lv_pop E.1 E.2.1 dX11_clauseHere_4 rfl ?_
  refine lv_aload_n E.1 E.2.1 dX11_clauseHere_5 rfl (lv_at hl 0 rfl) ?_
  refine t_get E G 11 8 (rfl : ro 386 = 11) (C := RX11) (T := TX11) (N := 37) rfl (by decide) (by decide) (by decide) mw_fl_11_93 (fvl_i rfl) dX11_clauseHere_6 ?_
  refine lv_topi (fun v14 e15 => ?_)
  have b16 : iv 0 400 v14 := by rw [e15]; exact oo4.i 11 8 (rfl : ro 386 = 11)
  refine lv_istore_n (lv' := [(1, .int v14), (0, .ref (ad 386))]) E.1 E.2.1 dX11_clauseHere_9 rfl hl (by decide) rfl (fun ls hl => ?_)
  refine lv_aload_n E.1 E.2.1 dX11_clauseHere_10 rfl (lv_at hl 1 rfl) ?_
  refine t_get E G 11 11 (rfl : ro 386 = 11) (C := RX11) (T := TX11) (N := 37) rfl (by decide) (by decide) (by decide) mw_fl_11_147 (fvl_i rfl) dX11_clauseHere_11 ?_
  refine lv_topi (fun v17 e18 => ?_)
  have b19 : iv 0 6 v17 := by rw [e18]; exact oo4.i 11 11 (rfl : ro 386 = 11)
  have b20 : iv 6 6 v17 := by rw [(e18.trans h12)]; exact ht
  refine lv_bipush (v := 6) E.1 E.2.1 dX11_clauseHere_14 (by decide) ?_
  refine lv_icmp_ne (tgt := 23) E.1 E.2.1 dX11_clauseHere_16 (by decide) (fun h => absurd (iv_one b20 (by decide)) h) (fun _ => ?_)
  refine lv_iconst (v := 1) E.1 E.2.1 dX11_clauseHere_19 (by decide) ?_
  refine lv_goto (tgt := 24) E.1 E.2.1 dX11_clauseHere_20 (by decide) ?_
  refine lv_istore_n (lv' := [(2, .int 1), (1, .int v14), (0, .ref (ad 386))]) E.1 E.2.1 dX11_clauseHere_24 rfl hl (by decide) rfl (fun ls hl => ?_)
  refine lv_iload_n E.1 E.2.1 dX11_clauseHere_25 rfl (lv_at hl 0 rfl) ?_
  refine lv_if_eq (tgt := 39) E.1 E.2.1 dX11_clauseHere_26 (by decide) (fun h => absurd h (by decide)) (fun _ => ?_)
  refine lv_aload_n E.1 E.2.1 dX11_clauseHere_29 rfl (lv_at hl 2 rfl) ?_
  refine t_vi E G hl (v_isTownWord l D K ad zz1 oo4 h13.1) 11 (rfl : ro 386 = 11) (by decide) rfl rfl 0 rfl mw_code_X11_isTownWord mw_ini_11 mw_ml_11_241 mw_inst_X11_isTownWord mw_sel_X11_isTownWord hd_X11_isTownWord ⟨Nat.le_trans (by decide) hfr, Nat.le_trans (by decide) hlo⟩ rfl rfl rfl (Nat.le_of_ble_eq_true rfl) dX11_clauseHere_30 (fun r22 zz21 H locs hp23 G => ?_)
  obtain ⟨oo24, kk25, b26, h27, h28⟩ := hp23
  have kk29 : KTn z zz21 := KF.tr kk11 (KN8.t kk25)
  have h30 : tI zz21 386 11 = v17 := KF.i kk25 11 (rfl : ro 386 = 11) (by decide) e18.symm
  have h31 := Scx.tr h13 h27
  refine lv_if_ne (tgt := 56) E.1 E.2.1 dX11_clauseHere_33 (by decide) (fun c32 => ?_) (fun c32 => ?_)
  · skip
    have b33 : iv 1 1 r22 := ne_lo c32 b26 (by decide) (by decide)
    have h34 : LTx zz21 := h28 c32
    refine lv_aload_n E.1 E.2.1 dX11_clauseHere_56 rfl (lv_at hl 2 rfl) ?_
    refine t_get E G 11 14 (rfl : ro 386 = 11) (C := RX11) (T := TX11) (N := 37) rfl (by decide) (by decide) (by decide) mw_fl_11_246 (fvl_i rfl) dX11_clauseHere_57 ?_
    refine lv_topi (fun v35 e36 => ?_)
    refine lv_iload_n E.1 E.2.1 dX11_clauseHere_60 rfl (lv_at hl 0 rfl) ?_
    refine lv_if_eq (tgt := 69) E.1 E.2.1 dX11_clauseHere_61 (by decide) (fun h => absurd h (by decide)) (fun _ => ?_)
    refine lv_bipush (v := 40) E.1 E.2.1 dX11_clauseHere_64 (by decide) ?_
    refine lv_goto (tgt := 71) E.1 E.2.1 dX11_clauseHere_66 (by decide) ?_
    refine lv_icmp_ne (tgt := 81) E.1 E.2.1 dX11_clauseHere_71 (by decide) (fun c37 => ?_) (fun c37 => ?_)
    · skip
      refine lv_aload_n E.1 E.2.1 dX11_clauseHere_81 rfl (lv_at hl 2 rfl) ?_
      refine lv_dup E.1 E.2.1 dX11_clauseHere_82 rfl ?_
      refine t_get E G 11 14 (rfl : ro 386 = 11) (C := RX11) (T := TX11) (N := 37) rfl (by decide) (by decide) (by decide) mw_fl_11_246 (fvl_i rfl) dX11_clauseHere_83 ?_
      refine m_ci v35 e36.symm ?_
      refine lv_iconst (v := 1) E.1 E.2.1 dX11_clauseHere_86 (by decide) ?_
      refine lv_iadd E.1 E.2.1 dX11_clauseHere_87 ?_
      refine lv_topi (fun v38 e39 => ?_)
      refine t_puti E G 11 14 (rfl : ro 386 = 11) (C := RX11) (T := TX11) (N := 37) rfl (by decide) (by decide) (by decide) rfl rfl mw_fl_11_246 rfl dX11_clauseHere_88 (fun H locs G => ?_)
      obtain ⟨zz42, G, oo43, kk44, h45, h46, h40, h41⟩ : ∃ u : TS, mG D A s H locs (wd K ad u) ∧ Ok u ∧ KTn z u ∧ tI u 386 11 = v17 ∧ tI u 386 14 = v38 ∧ (Scx z u) ∧ (LTx u) := ⟨_, G, ok_i oo24 11 (rfl : ro 386 = 11) (iv_mono (iv_full v38) (by decide) (by decide)) (by decide), KF.tr kk29 (KF_i 11 (rfl : ro 386 = 11) (by decide)), (sI_k h30 (by decide)), sI_self, h31, h34⟩
      refine lv_iload_n E.1 E.2.1 dX11_clauseHere_91 rfl (lv_at hl 0 rfl) ?_
      refine lv_if_eq (tgt := 103) E.1 E.2.1 dX11_clauseHere_92 (by decide) (fun h => absurd h (by decide)) (fun _ => ?_)
      refine lv_aload_n E.1 E.2.1 dX11_clauseHere_95 rfl (lv_at hl 2 rfl) ?_
      refine lv_iload_n E.1 E.2.1 dX11_clauseHere_96 rfl (lv_at hl 1 rfl) ?_
      refine t_vi E G hl (v_townLineHere l D K ad zz42 oo43 v14 h40.1) 11 (rfl : ro 386 = 11) (by decide) rfl rfl 1 rfl mw_code_X11_townLineHere mw_ini_11 mw_ml_11_249 mw_inst_X11_townLineHere mw_sel_X11_townLineHere hd_X11_townLineHere ⟨Nat.le_trans (by decide) hfr, Nat.le_trans (by decide) hlo⟩ rfl rfl rfl (Nat.le_of_ble_eq_true rfl) dX11_clauseHere_97 (fun r48 zz47 H locs hp49 G => ?_)
      obtain ⟨oo50, kk51, b52, h53⟩ := hp49
      have kk54 : KTn z zz47 := KF.tr kk44 kk51
      have h55 : tI zz47 386 11 = v17 := KF.i kk51 11 (rfl : ro 386 = 11) (by decide) h45
      have h56 := Scx.tr h40 h53
      refine lv_goto (tgt := 107) E.1 E.2.1 dX11_clauseHere_100 (by decide) ?_
      exact RET G ⟨oo50, kk54, (iv_mono b52 (by decide) (by decide)), h56⟩ (nar_b b52) dX11_clauseHere_107
    · skip
      have b57 : iv 40 40 v35 := iv_eq c37 (iv_lit (lo := 40) (hi := 40) 40 (by decide) (by decide))
      refine lv_aload_n E.1 E.2.1 dX11_clauseHere_74 rfl (lv_at hl 2 rfl) ?_
      refine lv_iconst (v := 4) E.1 E.2.1 dX11_clauseHere_75 (by decide) ?_
      refine lv_iload_n E.1 E.2.1 dX11_clauseHere_76 rfl (lv_at hl 1 rfl) ?_
      refine t_vi E G hl (v_fails l D K ad zz21 oo24 (4 : Int32) v14) 11 (rfl : ro 386 = 11) (by decide) rfl rfl 2 rfl mw_code_X11_fails mw_ini_11 mw_ml_11_114 mw_inst_X11_fails mw_sel_X11_fails hd_X11_fails ⟨Nat.le_trans (by decide) hfr, Nat.le_trans (by decide) hlo⟩ rfl rfl rfl (Nat.le_of_ble_eq_true rfl) dX11_clauseHere_77 (fun r59 zz58 H locs hp60 G => ?_)
      obtain ⟨oo61, kk62, b63⟩ := hp60
      have kk64 : KTn z zz58 := KF.tr kk29 (KA9.t kk62)
      have h65 : tI zz58 386 11 = v17 := KF.i kk62 11 (rfl : ro 386 = 11) (by decide) h30
      have h66 : tI zz58 386 14 = v35 := KF.i kk62 11 (rfl : ro 386 = 11) (by decide) e36.symm
      have h67 := Scx.tr h31 (Scx.k h31.1 kk62 rfl rfl)
      have h68 : LTx zz58 := LTx.k h34 kk62 (kk62.1 386 8 rfl) rfl rfl
      exact RET G ⟨oo61, kk64, (iv_mono b63 (by decide) (by decide)), h67⟩ (nar_b b63) dX11_clauseHere_80
  · skip
    have b69 : iv 0 0 r22 := iv_eq c32 (iv_lit (lo := 0) (hi := 0) 0 (by decide) (by decide))
    refine lv_goto (tgt := 49) E.1 E.2.1 dX11_clauseHere_36 (by decide) ?_
    refine lv_aload_n E.1 E.2.1 dX11_clauseHere_49 rfl (lv_at hl 2 rfl) ?_
    refine lv_iconst (v := 0) E.1 E.2.1 dX11_clauseHere_50 (by decide) ?_
    refine lv_iload_n E.1 E.2.1 dX11_clauseHere_51 rfl (lv_at hl 1 rfl) ?_
    refine t_vi E G hl (v_fails l D K ad zz21 oo24 (0 : Int32) v14) 11 (rfl : ro 386 = 11) (by decide) rfl rfl 2 rfl mw_code_X11_fails mw_ini_11 mw_ml_11_114 mw_inst_X11_fails mw_sel_X11_fails hd_X11_fails ⟨Nat.le_trans (by decide) hfr, Nat.le_trans (by decide) hlo⟩ rfl rfl rfl (Nat.le_of_ble_eq_true rfl) dX11_clauseHere_52 (fun r71 zz70 H locs hp72 G => ?_)
    obtain ⟨oo73, kk74, b75⟩ := hp72
    have kk76 : KTn z zz70 := KF.tr kk29 (KA9.t kk74)
    have h77 : tI zz70 386 11 = v17 := KF.i kk74 11 (rfl : ro 386 = 11) (by decide) h30
    have h78 := Scx.tr h31 (Scx.k h31.1 kk74 rfl rfl)
    exact RET G ⟨oo73, kk76, (iv_mono b75 (by decide) (by decide)), h78⟩ (nar_b b75) dX11_clauseHere_55
