theorem mw_code_X11_clauseHere : (Cond.code yX11_clauseHere cX11_clauseHere 3 (some .boolean) : Cond) ∈ cw := cw_of (List.mem_append_right _ (List.mem_append_right _ (List.mem_append_right _ (List.mem_append_right _ (List.mem_append_right _ (List.mem_append_right _ (List.mem_append_left _ (List.mem_of_getElem? (i := 3) rfl)))))))) (by decide +kernel)
theorem mw_fl_11_150 : (Cond.fieldLink RX11 150 "LureTownModel" "made" "I" : Cond) ∈ cw := cw_of (List.mem_append_right _ (List.mem_append_right _ (List.mem_append_right _ (List.mem_append_right _ (List.mem_append_right _ (List.mem_append_left _ (List.mem_of_getElem? (i := 119) (by decide +kernel)))))))) (by decide +kernel)
theorem mw_fl_11_17 : (Cond.fieldLink RX11 17 "LureTownModel" "length" "[I" : Cond) ∈ cw := cw_of (List.mem_append_right _ (List.mem_append_right _ (List.mem_append_right _ (List.mem_append_right _ (List.mem_append_right _ (List.mem_append_left _ (List.mem_of_getElem? (i := 111) (by decide +kernel)))))))) (by decide +kernel)
theorem mw_inst_X11_clauseHere : (Cond.instanceMethod yX11_clauseHere : Cond) ∈ cw := cw_of (List.mem_append_right _ (List.mem_append_right _ (List.mem_append_right _ (List.mem_append_right _ (List.mem_append_right _ (List.mem_append_right _ (List.mem_append_left _ (List.mem_of_getElem? (i := 2) (by decide +kernel))))))))) (by decide +kernel)
theorem mw_ml_11_255 : (Cond.methodLink RX11 255 yX11_clauseHere : Cond) ∈ cw := cw_of (List.mem_append_right _ (List.mem_append_right _ (List.mem_append_right _ (List.mem_append_right _ (List.mem_append_right _ (List.mem_append_right _ (List.mem_append_left _ (List.mem_of_getElem? (i := 0) (by decide +kernel))))))))) (by decide +kernel)
theorem mw_sel_X11_clauseHere : (Cond.selects RX11 yX11_clauseHere yX11_clauseHere : Cond) ∈ cw := cw_of (List.mem_append_left _ (List.mem_of_getElem? (i := 49) (by decide +kernel))) (by decide +kernel)
theorem dX11_readsAll_0 : decode cX11_readsAll 0 = .ok (.aload_n 0, 1) := by decide +kernel
theorem dX11_readsAll_1 : decode cX11_readsAll 1 = .ok (.getfield 17, 3) := by decide +kernel
theorem dX11_readsAll_4 : decode cX11_readsAll 4 = .ok (.aload_n 0, 1) := by decide +kernel
theorem dX11_readsAll_5 : decode cX11_readsAll 5 = .ok (.getfield 147, 3) := by decide +kernel
theorem dX11_readsAll_8 : decode cX11_readsAll 8 = .ok (.iconst 0, 1) := by decide +kernel
theorem dX11_readsAll_9 : decode cX11_readsAll 9 = .ok (.iastore, 1) := by decide +kernel
theorem dX11_readsAll_10 : decode cX11_readsAll 10 = .ok (.aload_n 0, 1) := by decide +kernel
theorem dX11_readsAll_11 : decode cX11_readsAll 11 = .ok (.iconst 0, 1) := by decide +kernel
theorem dX11_readsAll_12 : decode cX11_readsAll 12 = .ok (.putfield 246, 3) := by decide +kernel
theorem dX11_readsAll_15 : decode cX11_readsAll 15 = .ok (.aload_n 0, 1) := by decide +kernel
theorem dX11_readsAll_16 : decode cX11_readsAll 16 = .ok (.iconst 0, 1) := by decide +kernel
theorem dX11_readsAll_17 : decode cX11_readsAll 17 = .ok (.putfield 93, 3) := by decide +kernel
theorem dX11_readsAll_20 : decode cX11_readsAll 20 = .ok (.aload_n 0, 1) := by decide +kernel
theorem dX11_readsAll_21 : decode cX11_readsAll 21 = .ok (.iconst 0, 1) := by decide +kernel
theorem dX11_readsAll_22 : decode cX11_readsAll 22 = .ok (.putfield 90, 3) := by decide +kernel
theorem dX11_readsAll_25 : decode cX11_readsAll 25 = .ok (.aload_n 0, 1) := by decide +kernel
theorem dX11_readsAll_26 : decode cX11_readsAll 26 = .ok (.iconst 0, 1) := by decide +kernel
theorem dX11_readsAll_27 : decode cX11_readsAll 27 = .ok (.putfield 150, 3) := by decide +kernel
theorem dX11_readsAll_30 : decode cX11_readsAll 30 = .ok (.aload_n 0, 1) := by decide +kernel
theorem dX11_readsAll_31 : decode cX11_readsAll 31 = .ok (.invokevirtual 255, 3) := by decide +kernel
theorem dX11_readsAll_34 : decode cX11_readsAll 34 = .ok (.istore_n 1, 1) := by decide +kernel
theorem dX11_readsAll_35 : decode cX11_readsAll 35 = .ok (.iload_n 1, 1) := by decide +kernel
theorem dX11_readsAll_36 : decode cX11_readsAll 36 = .ok (.ifCond .eq 30, 3) := by decide +kernel
theorem dX11_readsAll_39 : decode cX11_readsAll 39 = .ok (.aload_n 0, 1) := by decide +kernel
theorem dX11_readsAll_40 : decode cX11_readsAll 40 = .ok (.invokevirtual 96, 3) := by decide +kernel
theorem dX11_readsAll_43 : decode cX11_readsAll 43 = .ok (.bipush 59, 2) := by decide +kernel
theorem dX11_readsAll_45 : decode cX11_readsAll 45 = .ok (.if_icmp .ne 21, 3) := by decide +kernel
theorem dX11_readsAll_48 : decode cX11_readsAll 48 = .ok (.aload_n 0, 1) := by decide +kernel
theorem dX11_readsAll_49 : decode cX11_readsAll 49 = .ok (.dup, 1) := by decide +kernel
theorem dX11_readsAll_50 : decode cX11_readsAll 50 = .ok (.getfield 93, 3) := by decide +kernel
theorem dX11_readsAll_53 : decode cX11_readsAll 53 = .ok (.iconst 1, 1) := by decide +kernel
theorem dX11_readsAll_54 : decode cX11_readsAll 54 = .ok (.iadd, 1) := by decide +kernel
theorem dX11_readsAll_55 : decode cX11_readsAll 55 = .ok (.putfield 93, 3) := by decide +kernel
theorem dX11_readsAll_58 : decode cX11_readsAll 58 = .ok (.aload_n 0, 1) := by decide +kernel
theorem dX11_readsAll_59 : decode cX11_readsAll 59 = .ok (.invokevirtual 255, 3) := by decide +kernel
theorem dX11_readsAll_62 : decode cX11_readsAll 62 = .ok (.istore_n 1, 1) := by decide +kernel
theorem dX11_readsAll_63 : decode cX11_readsAll 63 = .ok (.goto (-28), 3) := by decide +kernel
theorem dX11_readsAll_66 : decode cX11_readsAll 66 = .ok (.iload_n 1, 1) := by decide +kernel
theorem dX11_readsAll_67 : decode cX11_readsAll 67 = .ok (.ifCond .eq 21, 3) := by decide +kernel
theorem dX11_readsAll_70 : decode cX11_readsAll 70 = .ok (.aload_n 0, 1) := by decide +kernel
theorem dX11_readsAll_71 : decode cX11_readsAll 71 = .ok (.invokevirtual 96, 3) := by decide +kernel
theorem dX11_readsAll_74 : decode cX11_readsAll 74 = .ok (.iconst (-1), 1) := by decide +kernel
theorem dX11_readsAll_75 : decode cX11_readsAll 75 = .ok (.if_icmp .eq 13, 3) := by decide +kernel
theorem dX11_readsAll_78 : decode cX11_readsAll 78 = .ok (.aload_n 0, 1) := by decide +kernel
theorem dX11_readsAll_79 : decode cX11_readsAll 79 = .ok (.iconst 0, 1) := by decide +kernel
theorem dX11_readsAll_80 : decode cX11_readsAll 80 = .ok (.aload_n 0, 1) := by decide +kernel
theorem dX11_readsAll_81 : decode cX11_readsAll 81 = .ok (.getfield 93, 3) := by decide +kernel
theorem dX11_readsAll_84 : decode cX11_readsAll 84 = .ok (.invokevirtual 114, 3) := by decide +kernel
theorem dX11_readsAll_87 : decode cX11_readsAll 87 = .ok (.pop, 1) := by decide +kernel
theorem dX11_readsAll_88 : decode cX11_readsAll 88 = .ok (.aload_n 0, 1) := by decide +kernel
theorem dX11_readsAll_89 : decode cX11_readsAll 89 = .ok (.iconst 0, 1) := by decide +kernel
theorem dX11_readsAll_90 : decode cX11_readsAll 90 = .ok (.putfield 83, 3) := by decide +kernel
theorem dX11_readsAll_93 : decode cX11_readsAll 93 = .ok (.aload_n 0, 1) := by decide +kernel
theorem dX11_readsAll_94 : decode cX11_readsAll 94 = .ok (.getfield 90, 3) := by decide +kernel
theorem dX11_readsAll_97 : decode cX11_readsAll 97 = .ok (.ifCond .ne 7, 3) := by decide +kernel
theorem dX11_readsAll_100 : decode cX11_readsAll 100 = .ok (.iconst 1, 1) := by decide +kernel
theorem dX11_readsAll_101 : decode cX11_readsAll 101 = .ok (.goto 4, 3) := by decide +kernel
theorem dX11_readsAll_104 : decode cX11_readsAll 104 = .ok (.iconst 0, 1) := by decide +kernel
theorem dX11_readsAll_105 : decode cX11_readsAll 105 = .ok (.ireturn, 1) := by decide +kernel
theorem hd_X11_clauseHere : yX11_clauseHere.cls ≠ "java/lang/invoke/MethodHandle" ∧ yX11_clauseHere.cls ≠ "java/lang/invoke/VarHandle" ∧ (parseMethodDescriptor yX11_clauseHere.desc).map (fun d => d.parameters.length) = some 0 := ⟨by decide +kernel, by decide +kernel, by decide +kernel⟩
set_option maxHeartbeats 4000000 in
set_option maxRecDepth 100000 in
theorem v_readsT (l : Launch) (D : va_G) (K : Nat → ClassId) (ad : Nat → Nat) (z : TS) (o : Ok z) (ht : iv 6 6 (tI z 386 11)) : cI l yX11_readsAll cX11_readsAll 2 .boolean ({ frames := 6, cells := 0, slots := 0, locals := 137 }) D K ad z [.ref (ad 386)] (fun r u => Ok u ∧ KTr z u ∧ iv 0 1 r ∧ tI u 386 11 = tI z 386 11) := by
  refine t_enterI (by decide) (Nat.le_of_ble_eq_true rfl) rfl rfl ?_
  intro p e s m args below meth c A R Q H locs ls E hfr hlo RET G hl
  have E : mE p s m meth c cX11_readsAll args 2 RX11 D K A := E
  have hl : lv_has ls 2 [(0, .ref (ad 386))] := hl
  refine lv_aload_n E.1 E.2.1 dX11_readsAll_0 rfl (lv_at hl 0 rfl) ?_
  refine t_get E G 11 4 (rfl : ro 386 = 11) (C := RX11) (T := TX11) (N := 37) rfl (by decide) (by decide) (by decide) mw_fl_11_17 (v := .ref (ad 389)) (fvl_o (n := 3) rfl) dX11_readsAll_1 ?_
  refine lv_aload_n E.1 E.2.1 dX11_readsAll_4 rfl (lv_at hl 0 rfl) ?_
  refine t_get E G 11 11 (rfl : ro 386 = 11) (C := RX11) (T := TX11) (N := 37) rfl (by decide) (by decide) (by decide) mw_fl_11_147 (fvl_i rfl) dX11_readsAll_5 ?_
  refine lv_topi (fun v1 e2 => ?_)
  have b3 : iv 0 6 v1 := by rw [e2]; exact o.i 11 11 (rfl : ro 386 = 11)
  have b4 : iv 6 6 v1 := by rw [(e2.trans rfl)]; exact ht
  refine lv_iconst (v := 0) E.1 E.2.1 dX11_readsAll_8 (by decide) ?_
  refine t_iast E G 47 (rfl : ro 389 = 47) (by decide) (by decide) rfl (n := 7) rfl (iv_vp b4 (by decide) (by decide)) dX11_readsAll_9 (fun H locs G => ?_)
  obtain ⟨zz5, G, oo6, kk7, h8⟩ : ∃ u : TS, mG D A s H locs (wd K ad u) ∧ Ok u ∧ KTr z u ∧ tI u 386 11 = v1 := ⟨_, G, ok_u o 47 (rfl : ro 389 = 47) (wr_u (by decide) (iv_mono (iv_lit (lo := 0) (hi := 0) 0 (by decide) (by decide)) (by decide) (by decide))) (by decide), KTr.tr KTr.rf (KTr_len b4), e2.symm⟩
  refine lv_aload_n E.1 E.2.1 dX11_readsAll_10 rfl (lv_at hl 0 rfl) ?_
  refine lv_iconst (v := 0) E.1 E.2.1 dX11_readsAll_11 (by decide) ?_
  refine t_puti E G 11 14 (rfl : ro 386 = 11) (C := RX11) (T := TX11) (N := 37) rfl (by decide) (by decide) (by decide) rfl rfl mw_fl_11_246 rfl dX11_readsAll_12 (fun H locs G => ?_)
  obtain ⟨zz9, G, oo10, kk11, h12, h13⟩ : ∃ u : TS, mG D A s H locs (wd K ad u) ∧ Ok u ∧ KTr z u ∧ tI u 386 11 = v1 ∧ tI u 386 14 = 0 := ⟨_, G, ok_i oo6 11 (rfl : ro 386 = 11) (iv_mono (iv_lit (lo := 0) (hi := 0) 0 (by decide) (by decide)) (by decide) (by decide)) (by decide), KTr.tr kk7 (KTr_i 11 (rfl : ro 386 = 11) (by decide)), (sI_k h8 (by decide)), sI_self⟩
  refine lv_aload_n E.1 E.2.1 dX11_readsAll_15 rfl (lv_at hl 0 rfl) ?_
  refine lv_iconst (v := 0) E.1 E.2.1 dX11_readsAll_16 (by decide) ?_
  refine t_puti E G 11 8 (rfl : ro 386 = 11) (C := RX11) (T := TX11) (N := 37) rfl (by decide) (by decide) (by decide) rfl rfl mw_fl_11_93 rfl dX11_readsAll_17 (fun H locs G => ?_)
  obtain ⟨zz14, G, oo15, kk16, h17, h18, h19⟩ : ∃ u : TS, mG D A s H locs (wd K ad u) ∧ Ok u ∧ KTr z u ∧ tI u 386 11 = v1 ∧ tI u 386 14 = 0 ∧ tI u 386 8 = 0 := ⟨_, G, ok_i oo10 11 (rfl : ro 386 = 11) (iv_mono (iv_lit (lo := 0) (hi := 0) 0 (by decide) (by decide)) (by decide) (by decide)) (by decide), KTr.tr kk11 (KTr_i 11 (rfl : ro 386 = 11) (by decide)), (sI_k h12 (by decide)), (sI_k h13 (by decide)), sI_self⟩
  refine lv_aload_n E.1 E.2.1 dX11_readsAll_20 rfl (lv_at hl 0 rfl) ?_
  refine lv_iconst (v := 0) E.1 E.2.1 dX11_readsAll_21 (by decide) ?_
  refine t_puti E G 11 9 (rfl : ro 386 = 11) (C := RX11) (T := TX11) (N := 37) rfl (by decide) (by decide) (by decide) rfl rfl mw_fl_11_90 rfl dX11_readsAll_22 (fun H locs G => ?_)
  obtain ⟨zz20, G, oo21, kk22, h23, h24, h25, h26⟩ : ∃ u : TS, mG D A s H locs (wd K ad u) ∧ Ok u ∧ KTr z u ∧ tI u 386 11 = v1 ∧ tI u 386 14 = 0 ∧ tI u 386 8 = 0 ∧ tI u 386 9 = 0 := ⟨_, G, ok_i oo15 11 (rfl : ro 386 = 11) (iv_mono (iv_lit (lo := 0) (hi := 0) 0 (by decide) (by decide)) (by decide) (by decide)) (by decide), KTr.tr kk16 (KTr_i 11 (rfl : ro 386 = 11) (by decide)), (sI_k h17 (by decide)), (sI_k h18 (by decide)), (sI_k h19 (by decide)), sI_self⟩
  refine lv_aload_n E.1 E.2.1 dX11_readsAll_25 rfl (lv_at hl 0 rfl) ?_
  refine lv_iconst (v := 0) E.1 E.2.1 dX11_readsAll_26 (by decide) ?_
  refine t_puti E G 11 12 (rfl : ro 386 = 11) (C := RX11) (T := TX11) (N := 37) rfl (by decide) (by decide) (by decide) rfl rfl mw_fl_11_150 rfl dX11_readsAll_27 (fun H locs G => ?_)
  obtain ⟨zz27, G, oo28, kk29, h30, h31, h32, h33, h34⟩ : ∃ u : TS, mG D A s H locs (wd K ad u) ∧ Ok u ∧ KTr z u ∧ tI u 386 11 = v1 ∧ tI u 386 14 = 0 ∧ tI u 386 8 = 0 ∧ tI u 386 9 = 0 ∧ tI u 386 12 = 0 := ⟨_, G, ok_i oo21 11 (rfl : ro 386 = 11) (iv_mono (iv_lit (lo := 0) (hi := 0) 0 (by decide) (by decide)) (by decide) (by decide)) (by decide), KTr.tr kk22 (KTr_i 11 (rfl : ro 386 = 11) (by decide)), (sI_k h23 (by decide)), (sI_k h24 (by decide)), (sI_k h25 (by decide)), (sI_k h26 (by decide)), sI_self⟩
  refine lv_aload_n E.1 E.2.1 dX11_readsAll_30 rfl (lv_at hl 0 rfl) ?_
  refine t_vi E G hl (v_clauseT l D K ad zz27 oo28 (by unfold NXx; rw [h32]; have h := (oo28.i (j := 386) 11 1 rfl).1; have e : ilo 11 1 = 0 := (by decide); have e0 : (0 : Int32).toInt = 0 := (by decide); omega) (by rw [h30]; exact b4)) 11 (rfl : ro 386 = 11) (by decide) rfl rfl 0 rfl mw_code_X11_clauseHere mw_ini_11 mw_ml_11_255 mw_inst_X11_clauseHere mw_sel_X11_clauseHere hd_X11_clauseHere ⟨Nat.le_trans (by decide) hfr, Nat.le_trans (by decide) hlo⟩ rfl rfl rfl (Nat.le_of_ble_eq_true rfl) dX11_readsAll_31 (fun r36 zz35 H locs hp37 G => ?_)
  obtain ⟨oo38, kk39, b40, h41⟩ := hp37
  have kk42 : KTr z zz35 := KTr.tr kk29 (KTn.r kk39)
  have h43 : tI zz35 386 11 = v1 := KF.i kk39 11 (rfl : ro 386 = 11) (by decide) h30
  have h44 : tI zz35 386 12 = 0 := KF.i kk39 11 (rfl : ro 386 = 11) (by decide) h34
  refine lv_istore_n (lv' := [(1, .int r36), (0, .ref (ad 386))]) E.1 E.2.1 dX11_readsAll_34 rfl hl (by decide) rfl (fun ls hl => ?_)
  have LOOP35 : ∀ n : Nat, ∀ (zz46 : TS) (y45 : Int32) (H : Heap) (locs : List Loc) (ls : Array Slot), mG D A s H locs (wd K ad zz46) → Ok zz46 → KTr z zz46 → iv 0 1 y45 → NXx zz46 → tI zz46 386 11 = tI z 386 11 → 400 < (tI zz46 386 8).toInt + (n : Int) → lv_has ls 2 [(1, .int y45), (0, .ref (ad 386))] → W p l e R s m args below meth c H locs 0 0 Q (F0 m 35 ls []) := by
    intro n
    induction n with
    | zero =>
      intro zz46 y45 H locs ls G oo47 kk48 b50 h51 h52 m49 hl
      exact absurd m49 (by have := (oo47.i (j := 386) 11 8 rfl).2; have e : ihi 11 8 = 400 := (by decide); omega)
    | succ n ih35 =>
      intro zz46 y45 H locs ls G oo47 kk48 b50 h51 h52 m49 hl
      refine lv_iload_n E.1 E.2.1 dX11_readsAll_35 rfl (lv_at hl 0 rfl) ?_
      have sc53 : Scx zz46 zz46 := Scx.rf h51
      refine lv_if_eq (tgt := 66) E.1 E.2.1 dX11_readsAll_36 (by decide) (fun c54 => ?_) (fun c54 => ?_)
      · skip
        have b55 : iv 0 0 y45 := iv_eq c54 (iv_lit (lo := 0) (hi := 0) 0 (by decide) (by decide))
        refine lv_iload_n E.1 E.2.1 dX11_readsAll_66 rfl (lv_at hl 0 rfl) ?_
        refine lv_if_eq (tgt := 88) E.1 E.2.1 dX11_readsAll_67 (by decide) (fun _ => ?_) (fun h => absurd c54 h)
        refine lv_aload_n E.1 E.2.1 dX11_readsAll_88 rfl (lv_at hl 1 rfl) ?_
        refine lv_iconst (v := 0) E.1 E.2.1 dX11_readsAll_89 (by decide) ?_
        refine t_puti E G 11 1 (rfl : ro 386 = 11) (C := RX11) (T := TX11) (N := 37) rfl (by decide) (by decide) (by decide) rfl rfl mw_fl_11_83 rfl dX11_readsAll_90 (fun H locs G => ?_)
        obtain ⟨zz56, G, oo57, kk58, h59, h60⟩ : ∃ u : TS, mG D A s H locs (wd K ad u) ∧ Ok u ∧ KTr z u ∧ tI u 386 11 = (tI z 386 11) ∧ tI u 386 1 = 0 := ⟨_, G, ok_i oo47 11 (rfl : ro 386 = 11) (iv_mono (iv_lit (lo := 0) (hi := 0) 0 (by decide) (by decide)) (by decide) (by decide)) (by decide), KTr.tr kk48 (KTr_i 11 (rfl : ro 386 = 11) (by decide)), (sI_k h52 (by decide)), sI_self⟩
        refine lv_aload_n E.1 E.2.1 dX11_readsAll_93 rfl (lv_at hl 1 rfl) ?_
        refine t_get E G 11 9 (rfl : ro 386 = 11) (C := RX11) (T := TX11) (N := 37) rfl (by decide) (by decide) (by decide) mw_fl_11_90 (fvl_i rfl) dX11_readsAll_94 ?_
        refine lv_topi (fun v61 e62 => ?_)
        refine lv_if_ne (tgt := 104) E.1 E.2.1 dX11_readsAll_97 (by decide) (fun c63 => ?_) (fun c63 => ?_)
        · skip
          refine lv_iconst (v := 0) E.1 E.2.1 dX11_readsAll_104 (by decide) ?_
          exact RET G ⟨oo57, kk58, (iv_mono (iv_lit (lo := 0) (hi := 0) 0 (by decide) (by decide)) (by decide) (by decide)), h59⟩ (by decide) dX11_readsAll_105
        · skip
          have b64 : iv 0 0 v61 := iv_eq c63 (iv_lit (lo := 0) (hi := 0) 0 (by decide) (by decide))
          refine lv_iconst (v := 1) E.1 E.2.1 dX11_readsAll_100 (by decide) ?_
          refine lv_goto (tgt := 105) E.1 E.2.1 dX11_readsAll_101 (by decide) ?_
          exact RET G ⟨oo57, kk58, (iv_mono (iv_lit (lo := 1) (hi := 1) 1 (by decide) (by decide)) (by decide) (by decide)), h59⟩ (by decide) dX11_readsAll_105
      · skip
        have b65 : iv 1 1 y45 := ne_lo c54 b50 (by decide) (by decide)
        refine lv_aload_n E.1 E.2.1 dX11_readsAll_39 rfl (lv_at hl 1 rfl) ?_
        refine t_vi E G hl (v_see l D K ad zz46 oo47 sc53.1) 11 (rfl : ro 386 = 11) (by decide) rfl rfl 0 rfl mw_code_X11_see mw_ini_11 mw_ml_11_96 mw_inst_X11_see mw_sel_X11_see hd_X11_see ⟨Nat.le_trans (by decide) hfr, Nat.le_trans (by decide) hlo⟩ rfl rfl rfl (Nat.le_of_ble_eq_true rfl) dX11_readsAll_40 (fun r67 zz66 H locs hp68 G => ?_)
        obtain ⟨oo69, kk70, b71, h72, h73, h74, h75⟩ := hp68
        have kk76 : KTr z zz66 := KTr.tr kk48 (KN8.r kk70)
        have h77 : tI zz66 386 11 = (tI z 386 11) := KF.i kk70 11 (rfl : ro 386 = 11) (by decide) h52
        have h78 := Scx.tr sc53 h72
        refine lv_bipush (v := 59) E.1 E.2.1 dX11_readsAll_43 (by decide) ?_
        refine lv_icmp_ne (tgt := 66) E.1 E.2.1 dX11_readsAll_45 (by decide) (fun c79 => ?_) (fun c79 => ?_)
        · skip
          refine lv_iload_n E.1 E.2.1 dX11_readsAll_66 rfl (lv_at hl 0 rfl) ?_
          refine lv_if_eq (tgt := 88) E.1 E.2.1 dX11_readsAll_67 (by decide) (fun h => absurd h (ivne2 b65 (iv_lit (lo := 0) (hi := 0) 0 (by decide) (by decide)) (by decide))) (fun _ => ?_)
          refine lv_aload_n E.1 E.2.1 dX11_readsAll_70 rfl (lv_at hl 1 rfl) ?_
          refine t_vi E G hl (v_see l D K ad zz66 oo69 h78.1) 11 (rfl : ro 386 = 11) (by decide) rfl rfl 0 rfl mw_code_X11_see mw_ini_11 mw_ml_11_96 mw_inst_X11_see mw_sel_X11_see hd_X11_see ⟨Nat.le_trans (by decide) hfr, Nat.le_trans (by decide) hlo⟩ rfl rfl rfl (Nat.le_of_ble_eq_true rfl) dX11_readsAll_71 (fun r81 zz80 H locs hp82 G => ?_)
          obtain ⟨oo83, kk84, b85, h86, h87, h88, h89⟩ := hp82
          have kk90 : KTr z zz80 := KTr.tr kk76 (KN8.r kk84)
          have h91 : tI zz80 386 11 = (tI z 386 11) := KF.i kk84 11 (rfl : ro 386 = 11) (by decide) h77
          have h92 := Scx.tr h78 h86
          refine lv_iconst (v := (-1)) E.1 E.2.1 dX11_readsAll_74 (by decide) ?_
          refine lv_icmp_eq (tgt := 88) E.1 E.2.1 dX11_readsAll_75 (by decide) (fun c93 => ?_) (fun c93 => ?_)
          · skip
            have b94 : iv (-1) (-1) r81 := iv_eq c93 (iv_lit (lo := (-1)) (hi := (-1)) (-1) (by decide) (by decide))
            refine lv_aload_n E.1 E.2.1 dX11_readsAll_88 rfl (lv_at hl 1 rfl) ?_
            refine lv_iconst (v := 0) E.1 E.2.1 dX11_readsAll_89 (by decide) ?_
            refine t_puti E G 11 1 (rfl : ro 386 = 11) (C := RX11) (T := TX11) (N := 37) rfl (by decide) (by decide) (by decide) rfl rfl mw_fl_11_83 rfl dX11_readsAll_90 (fun H locs G => ?_)
            obtain ⟨zz95, G, oo96, kk97, h98, h99⟩ : ∃ u : TS, mG D A s H locs (wd K ad u) ∧ Ok u ∧ KTr z u ∧ tI u 386 11 = (tI z 386 11) ∧ tI u 386 1 = 0 := ⟨_, G, ok_i oo83 11 (rfl : ro 386 = 11) (iv_mono (iv_lit (lo := 0) (hi := 0) 0 (by decide) (by decide)) (by decide) (by decide)) (by decide), KTr.tr kk90 (KTr_i 11 (rfl : ro 386 = 11) (by decide)), (sI_k h91 (by decide)), sI_self⟩
            refine lv_aload_n E.1 E.2.1 dX11_readsAll_93 rfl (lv_at hl 1 rfl) ?_
            refine t_get E G 11 9 (rfl : ro 386 = 11) (C := RX11) (T := TX11) (N := 37) rfl (by decide) (by decide) (by decide) mw_fl_11_90 (fvl_i rfl) dX11_readsAll_94 ?_
            refine lv_topi (fun v100 e101 => ?_)
            refine lv_if_ne (tgt := 104) E.1 E.2.1 dX11_readsAll_97 (by decide) (fun c102 => ?_) (fun c102 => ?_)
            · skip
              refine lv_iconst (v := 0) E.1 E.2.1 dX11_readsAll_104 (by decide) ?_
              exact RET G ⟨oo96, kk97, (iv_mono (iv_lit (lo := 0) (hi := 0) 0 (by decide) (by decide)) (by decide) (by decide)), h98⟩ (by decide) dX11_readsAll_105
            · skip
              have b103 : iv 0 0 v100 := iv_eq c102 (iv_lit (lo := 0) (hi := 0) 0 (by decide) (by decide))
              refine lv_iconst (v := 1) E.1 E.2.1 dX11_readsAll_100 (by decide) ?_
              refine lv_goto (tgt := 105) E.1 E.2.1 dX11_readsAll_101 (by decide) ?_
              exact RET G ⟨oo96, kk97, (iv_mono (iv_lit (lo := 1) (hi := 1) 1 (by decide) (by decide)) (by decide) (by decide)), h98⟩ (by decide) dX11_readsAll_105
          · skip
            have b104 : iv 0 255 r81 := ne_lo c93 b85 (by decide) (by decide)
            have h105 : LSx zz80 := h89 (Int.le_trans (by decide) b104.1)
            refine lv_aload_n E.1 E.2.1 dX11_readsAll_78 rfl (lv_at hl 1 rfl) ?_
            refine lv_iconst (v := 0) E.1 E.2.1 dX11_readsAll_79 (by decide) ?_
            refine lv_aload_n E.1 E.2.1 dX11_readsAll_80 rfl (lv_at hl 1 rfl) ?_
            refine t_get E G 11 8 (rfl : ro 386 = 11) (C := RX11) (T := TX11) (N := 37) rfl (by decide) (by decide) (by decide) mw_fl_11_93 (fvl_i rfl) dX11_readsAll_81 ?_
            refine lv_topi (fun v106 e107 => ?_)
            have b108 : iv 0 400 v106 := by rw [e107]; exact oo83.i 11 8 (rfl : ro 386 = 11)
            have b109 : iv 0 399 v106 := LSx.iv oo83 h105 e107
            refine t_vi E G hl (v_fails l D K ad zz80 oo83 (0 : Int32) v106) 11 (rfl : ro 386 = 11) (by decide) rfl rfl 2 rfl mw_code_X11_fails mw_ini_11 mw_ml_11_114 mw_inst_X11_fails mw_sel_X11_fails hd_X11_fails ⟨Nat.le_trans (by decide) hfr, Nat.le_trans (by decide) hlo⟩ rfl rfl rfl (Nat.le_of_ble_eq_true rfl) dX11_readsAll_84 (fun r111 zz110 H locs hp112 G => ?_)
            obtain ⟨oo113, kk114, b115⟩ := hp112
            have kk116 : KTr z zz110 := KTr.tr kk90 (KA9.r kk114)
            have h117 : tI zz110 386 11 = (tI z 386 11) := KF.i kk114 11 (rfl : ro 386 = 11) (by decide) h91
            have h118 : tI zz110 386 8 = v106 := KF.i kk114 11 (rfl : ro 386 = 11) (by decide) e107.symm
            have h119 := Scx.tr h92 (Scx.k h92.1 kk114 rfl rfl)
            have h120 : LSx zz110 := LSx.k h105 kk114 (kk114.1 386 8 rfl) rfl
            refine lv_pop E.1 E.2.1 dX11_readsAll_87 rfl ?_
            refine lv_aload_n E.1 E.2.1 dX11_readsAll_88 rfl (lv_at hl 1 rfl) ?_
            refine lv_iconst (v := 0) E.1 E.2.1 dX11_readsAll_89 (by decide) ?_
            refine t_puti E G 11 1 (rfl : ro 386 = 11) (C := RX11) (T := TX11) (N := 37) rfl (by decide) (by decide) (by decide) rfl rfl mw_fl_11_83 rfl dX11_readsAll_90 (fun H locs G => ?_)
            obtain ⟨zz121, G, oo122, kk123, h124, h125, h126⟩ : ∃ u : TS, mG D A s H locs (wd K ad u) ∧ Ok u ∧ KTr z u ∧ tI u 386 11 = (tI z 386 11) ∧ tI u 386 8 = v106 ∧ tI u 386 1 = 0 := ⟨_, G, ok_i oo113 11 (rfl : ro 386 = 11) (iv_mono (iv_lit (lo := 0) (hi := 0) 0 (by decide) (by decide)) (by decide) (by decide)) (by decide), KTr.tr kk116 (KTr_i 11 (rfl : ro 386 = 11) (by decide)), (sI_k h117 (by decide)), (sI_k h118 (by decide)), sI_self⟩
            refine lv_aload_n E.1 E.2.1 dX11_readsAll_93 rfl (lv_at hl 1 rfl) ?_
            refine t_get E G 11 9 (rfl : ro 386 = 11) (C := RX11) (T := TX11) (N := 37) rfl (by decide) (by decide) (by decide) mw_fl_11_90 (fvl_i rfl) dX11_readsAll_94 ?_
            refine lv_topi (fun v127 e128 => ?_)
            refine lv_if_ne (tgt := 104) E.1 E.2.1 dX11_readsAll_97 (by decide) (fun c129 => ?_) (fun c129 => ?_)
            · skip
              refine lv_iconst (v := 0) E.1 E.2.1 dX11_readsAll_104 (by decide) ?_
              exact RET G ⟨oo122, kk123, (iv_mono (iv_lit (lo := 0) (hi := 0) 0 (by decide) (by decide)) (by decide) (by decide)), h124⟩ (by decide) dX11_readsAll_105
            · skip
              have b130 : iv 0 0 v127 := iv_eq c129 (iv_lit (lo := 0) (hi := 0) 0 (by decide) (by decide))
              refine lv_iconst (v := 1) E.1 E.2.1 dX11_readsAll_100 (by decide) ?_
              refine lv_goto (tgt := 105) E.1 E.2.1 dX11_readsAll_101 (by decide) ?_
              exact RET G ⟨oo122, kk123, (iv_mono (iv_lit (lo := 1) (hi := 1) 1 (by decide) (by decide)) (by decide) (by decide)), h124⟩ (by decide) dX11_readsAll_105
        · skip
          have b131 : iv 59 59 r67 := iv_eq c79 (iv_lit (lo := 59) (hi := 59) 59 (by decide) (by decide))
          have h132 : LSx zz66 := h75 (Int.le_trans (by decide) b131.1)
          refine lv_aload_n E.1 E.2.1 dX11_readsAll_48 rfl (lv_at hl 1 rfl) ?_
          refine lv_dup E.1 E.2.1 dX11_readsAll_49 rfl ?_
          refine t_get E G 11 8 (rfl : ro 386 = 11) (C := RX11) (T := TX11) (N := 37) rfl (by decide) (by decide) (by decide) mw_fl_11_93 (fvl_i rfl) dX11_readsAll_50 ?_
          refine lv_topi (fun v133 e134 => ?_)
          have b135 : iv 0 400 v133 := by rw [e134]; exact oo69.i 11 8 (rfl : ro 386 = 11)
          have b136 : iv 0 399 v133 := LSx.iv oo69 h132 e134
          refine lv_iconst (v := 1) E.1 E.2.1 dX11_readsAll_53 (by decide) ?_
          refine lv_iadd E.1 E.2.1 dX11_readsAll_54 ?_
          refine lv_topi (fun v137 e138 => ?_)
          have b139 : iv 1 400 v137 := by rw [e138]; exact iv_add b136 (iv_lit (lo := 1) (hi := 1) 1 (by decide) (by decide)) (by decide) (by decide) (by decide) (by decide)
          have l140 : v137.toInt = 1 + 1 * v133.toInt := (show v137.toInt = v133.toInt + 1 by rw [e138]; exact ti_addc 1 (by decide) b136 (by decide) (by decide)).trans (by omega)
          refine t_puti E G 11 8 (rfl : ro 386 = 11) (C := RX11) (T := TX11) (N := 37) rfl (by decide) (by decide) (by decide) rfl rfl mw_fl_11_93 rfl dX11_readsAll_55 (fun H locs G => ?_)
          obtain ⟨zz143, G, oo144, kk145, h146, h147, h141, h142⟩ : ∃ u : TS, mG D A s H locs (wd K ad u) ∧ Ok u ∧ KTr z u ∧ tI u 386 11 = (tI z 386 11) ∧ tI u 386 8 = v137 ∧ (Scx zz46 u) ∧ ((tI zz46 386 8).toInt + 1 ≤ (tI u 386 8).toInt) := ⟨_, G, ok_i oo69 11 (rfl : ro 386 = 11) (iv_mono b139 (by decide) (by decide)) (by decide), KTr.tr kk76 (KTr_i 11 (rfl : ro 386 = 11) (by decide)), (sI_k h77 (by decide)), sI_self, (Scx.tr h78 (up_ls e134 h132 (l140.trans (by omega))).1), (by have h1 := (up_ls e134 h132 (l140.trans (by omega))).2; have h2 := h78.2; omega)⟩
          refine lv_aload_n E.1 E.2.1 dX11_readsAll_58 rfl (lv_at hl 1 rfl) ?_
          refine t_vi E G hl (v_clauseT l D K ad zz143 oo144 h141.1 (by rw [h146]; exact ht)) 11 (rfl : ro 386 = 11) (by decide) rfl rfl 0 rfl mw_code_X11_clauseHere mw_ini_11 mw_ml_11_255 mw_inst_X11_clauseHere mw_sel_X11_clauseHere hd_X11_clauseHere ⟨Nat.le_trans (by decide) hfr, Nat.le_trans (by decide) hlo⟩ rfl rfl rfl (Nat.le_of_ble_eq_true rfl) dX11_readsAll_59 (fun r149 zz148 H locs hp150 G => ?_)
          obtain ⟨oo151, kk152, b153, h154⟩ := hp150
          have kk155 : KTr z zz148 := KTr.tr kk145 (KTn.r kk152)
          have h156 : tI zz148 386 11 = (tI z 386 11) := KF.i kk152 11 (rfl : ro 386 = 11) (by decide) h146
          have h157 := Scx.tr h141 h154
          have h158 : (tI zz46 386 8).toInt + 1 ≤ (tI zz148 386 8).toInt := by have h1 := h142; have h2 := h154.2; omega
          refine lv_istore_n (lv' := [(1, .int r149), (0, .ref (ad 386))]) E.1 E.2.1 dX11_readsAll_62 rfl hl (by decide) rfl (fun ls hl => ?_)
          refine lv_goto (tgt := 35) E.1 E.2.1 dX11_readsAll_63 (by decide) ?_
          exact ih35 zz148 r149 H locs ls G oo151 kk155 (iv_mono b153 (by decide) (by decide)) h157.1 h156 (by have h := h158; have := m49; omega) (lv_sub hl [0, 1] rfl)
  exact LOOP35 401 zz35 r36 H locs ls G oo38 kk42 (iv_mono b40 (by decide) (by decide)) h41.1 (h43.trans (e2.trans rfl)) (by have := (oo38.i (j := 386) 11 8 rfl).1; have e : ilo 11 8 = 0 := (by decide); omega) (lv_sub hl [0, 1] rfl)
