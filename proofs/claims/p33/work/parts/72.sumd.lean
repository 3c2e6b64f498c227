theorem mw_code_X11_reckons : (Cond.code yX11_reckons cX11_reckons 11 (some .long) : Cond) ∈ cw := cw_of (List.mem_append_right _ (List.mem_append_right _ (List.mem_append_right _ (List.mem_append_right _ (List.mem_append_right _ (List.mem_append_right _ (List.mem_append_right _ (List.mem_append_left _ (List.mem_of_getElem? (i := 28) rfl))))))))) (by decide +kernel)
theorem mw_fl_11_20 : (Cond.fieldLink RX11 20 "LureTownModel" "clause" "[I" : Cond) ∈ cw := cw_of (List.mem_append_right _ (List.mem_append_right _ (List.mem_append_right _ (List.mem_append_right _ (List.mem_append_right _ (List.mem_append_left _ (List.mem_of_getElem? (i := 112) (by decide +kernel)))))))) (by decide +kernel)
theorem mw_fl_11_23 : (Cond.fieldLink RX11 23 "LureTownModel" "clauses" "[I" : Cond) ∈ cw := cw_of (List.mem_append_right _ (List.mem_append_right _ (List.mem_append_right _ (List.mem_append_right _ (List.mem_append_right _ (List.mem_append_left _ (List.mem_of_getElem? (i := 113) (by decide +kernel)))))))) (by decide +kernel)
theorem mw_inst_X11_reckons : (Cond.instanceMethod yX11_reckons : Cond) ∈ cw := cw_of (List.mem_append_right _ (List.mem_append_right _ (List.mem_append_right _ (List.mem_append_right _ (List.mem_append_right _ (List.mem_append_right _ (List.mem_append_right _ (List.mem_append_left _ (List.mem_of_getElem? (i := 27) (by decide +kernel)))))))))) (by decide +kernel)
theorem mw_ml_11_326 : (Cond.methodLink RX11 326 yX11_reckons : Cond) ∈ cw := cw_of (List.mem_append_right _ (List.mem_append_right _ (List.mem_append_right _ (List.mem_append_right _ (List.mem_append_right _ (List.mem_append_right _ (List.mem_append_right _ (List.mem_append_left _ (List.mem_of_getElem? (i := 25) (by decide +kernel)))))))))) (by decide +kernel)
theorem mw_sel_X11_reckons : (Cond.selects RX11 yX11_reckons yX11_reckons : Cond) ∈ cw := cw_of (List.mem_append_left _ (List.mem_of_getElem? (i := 101) (by decide +kernel))) (by decide +kernel)
theorem dX11_summedBy_0 : decode cX11_summedBy 0 = .ok (.iconst 0, 1) := by decide +kernel
theorem dX11_summedBy_1 : decode cX11_summedBy 1 = .ok (.istore_n 2, 1) := by decide +kernel
theorem dX11_summedBy_2 : decode cX11_summedBy 2 = .ok (.iload_n 2, 1) := by decide +kernel
theorem dX11_summedBy_3 : decode cX11_summedBy 3 = .ok (.aload_n 0, 1) := by decide +kernel
theorem dX11_summedBy_4 : decode cX11_summedBy 4 = .ok (.getfield 23, 3) := by decide +kernel
theorem dX11_summedBy_7 : decode cX11_summedBy 7 = .ok (.iload_n 1, 1) := by decide +kernel
theorem dX11_summedBy_8 : decode cX11_summedBy 8 = .ok (.iaload, 1) := by decide +kernel
theorem dX11_summedBy_9 : decode cX11_summedBy 9 = .ok (.if_icmp .ge 75, 3) := by decide +kernel
theorem dX11_summedBy_12 : decode cX11_summedBy 12 = .ok (.bipush 48, 2) := by decide +kernel
theorem dX11_summedBy_14 : decode cX11_summedBy 14 = .ok (.iload_n 1, 1) := by decide +kernel
theorem dX11_summedBy_15 : decode cX11_summedBy 15 = .ok (.imul, 1) := by decide +kernel
theorem dX11_summedBy_16 : decode cX11_summedBy 16 = .ok (.iconst 4, 1) := by decide +kernel
theorem dX11_summedBy_17 : decode cX11_summedBy 17 = .ok (.iload_n 2, 1) := by decide +kernel
theorem dX11_summedBy_18 : decode cX11_summedBy 18 = .ok (.imul, 1) := by decide +kernel
theorem dX11_summedBy_19 : decode cX11_summedBy 19 = .ok (.iadd, 1) := by decide +kernel
theorem dX11_summedBy_20 : decode cX11_summedBy 20 = .ok (.istore_n 3, 1) := by decide +kernel
theorem dX11_summedBy_21 : decode cX11_summedBy 21 = .ok (.aload_n 0, 1) := by decide +kernel
theorem dX11_summedBy_22 : decode cX11_summedBy 22 = .ok (.getfield 20, 3) := by decide +kernel
theorem dX11_summedBy_25 : decode cX11_summedBy 25 = .ok (.iload_n 3, 1) := by decide +kernel
theorem dX11_summedBy_26 : decode cX11_summedBy 26 = .ok (.iconst 2, 1) := by decide +kernel
theorem dX11_summedBy_27 : decode cX11_summedBy 27 = .ok (.iadd, 1) := by decide +kernel
theorem dX11_summedBy_28 : decode cX11_summedBy 28 = .ok (.iaload, 1) := by decide +kernel
theorem dX11_summedBy_29 : decode cX11_summedBy 29 = .ok (.ifCond .lt 29, 3) := by decide +kernel
theorem dX11_summedBy_32 : decode cX11_summedBy 32 = .ok (.aload_n 0, 1) := by decide +kernel
theorem dX11_summedBy_33 : decode cX11_summedBy 33 = .ok (.iload_n 1, 1) := by decide +kernel
theorem dX11_summedBy_34 : decode cX11_summedBy 34 = .ok (.aload_n 0, 1) := by decide +kernel
theorem dX11_summedBy_35 : decode cX11_summedBy 35 = .ok (.getfield 20, 3) := by decide +kernel
theorem dX11_summedBy_38 : decode cX11_summedBy 38 = .ok (.iload_n 3, 1) := by decide +kernel
theorem dX11_summedBy_39 : decode cX11_summedBy 39 = .ok (.iconst 2, 1) := by decide +kernel
theorem dX11_summedBy_40 : decode cX11_summedBy 40 = .ok (.iadd, 1) := by decide +kernel
theorem dX11_summedBy_41 : decode cX11_summedBy 41 = .ok (.iaload, 1) := by decide +kernel
theorem dX11_summedBy_42 : decode cX11_summedBy 42 = .ok (.aload_n 0, 1) := by decide +kernel
theorem dX11_summedBy_43 : decode cX11_summedBy 43 = .ok (.getfield 20, 3) := by decide +kernel
theorem dX11_summedBy_46 : decode cX11_summedBy 46 = .ok (.iload_n 3, 1) := by decide +kernel
theorem dX11_summedBy_47 : decode cX11_summedBy 47 = .ok (.iconst 3, 1) := by decide +kernel
theorem dX11_summedBy_48 : decode cX11_summedBy 48 = .ok (.iadd, 1) := by decide +kernel
theorem dX11_summedBy_49 : decode cX11_summedBy 49 = .ok (.iaload, 1) := by decide +kernel
theorem dX11_summedBy_50 : decode cX11_summedBy 50 = .ok (.invokevirtual 326, 3) := by decide +kernel
theorem dX11_summedBy_53 : decode cX11_summedBy 53 = .ok (.lconst 1, 1) := by decide +kernel
theorem dX11_summedBy_54 : decode cX11_summedBy 54 = .ok (.lcmp, 1) := by decide +kernel
theorem dX11_summedBy_55 : decode cX11_summedBy 55 = .ok (.ifCond .ne 23, 3) := by decide +kernel
theorem dX11_summedBy_58 : decode cX11_summedBy 58 = .ok (.aload_n 0, 1) := by decide +kernel
theorem dX11_summedBy_59 : decode cX11_summedBy 59 = .ok (.iload_n 1, 1) := by decide +kernel
theorem dX11_summedBy_60 : decode cX11_summedBy 60 = .ok (.aload_n 0, 1) := by decide +kernel
theorem dX11_summedBy_61 : decode cX11_summedBy 61 = .ok (.getfield 20, 3) := by decide +kernel
theorem dX11_summedBy_64 : decode cX11_summedBy 64 = .ok (.iload_n 3, 1) := by decide +kernel
theorem dX11_summedBy_65 : decode cX11_summedBy 65 = .ok (.iaload, 1) := by decide +kernel
theorem dX11_summedBy_66 : decode cX11_summedBy 66 = .ok (.aload_n 0, 1) := by decide +kernel
theorem dX11_summedBy_67 : decode cX11_summedBy 67 = .ok (.getfield 20, 3) := by decide +kernel
theorem dX11_summedBy_70 : decode cX11_summedBy 70 = .ok (.iload_n 3, 1) := by decide +kernel
theorem dX11_summedBy_71 : decode cX11_summedBy 71 = .ok (.iconst 1, 1) := by decide +kernel
theorem dX11_summedBy_72 : decode cX11_summedBy 72 = .ok (.iadd, 1) := by decide +kernel
theorem dX11_summedBy_73 : decode cX11_summedBy 73 = .ok (.iaload, 1) := by decide +kernel
theorem dX11_summedBy_74 : decode cX11_summedBy 74 = .ok (.invokevirtual 326, 3) := by decide +kernel
theorem dX11_summedBy_77 : decode cX11_summedBy 77 = .ok (.lreturn, 1) := by decide +kernel
theorem dX11_summedBy_78 : decode cX11_summedBy 78 = .ok (.iinc 2 1, 3) := by decide +kernel
theorem dX11_summedBy_81 : decode cX11_summedBy 81 = .ok (.goto (-79), 3) := by decide +kernel
theorem dX11_summedBy_84 : decode cX11_summedBy 84 = .ok (.lconst 0, 1) := by decide +kernel
theorem dX11_summedBy_85 : decode cX11_summedBy 85 = .ok (.lreturn, 1) := by decide +kernel
theorem hd_X11_reckons : yX11_reckons.cls ≠ "java/lang/invoke/MethodHandle" ∧ yX11_reckons.cls ≠ "java/lang/invoke/VarHandle" ∧ (parseMethodDescriptor yX11_reckons.desc).map (fun d => d.parameters.length) = some 3 := ⟨by decide +kernel, by decide +kernel, by decide +kernel⟩
set_option maxHeartbeats 4000000 in
set_option maxRecDepth 100000 in
theorem v_summedBy (l : Launch) (D : va_G) (K : Nat → ClassId) (ad : Nat → Nat) (z : TS) (o : Ok z) (x1 : Int32) (bx1 : iv 0 5 x1) (wf : WFc z) : cL l yX11_summedBy cX11_summedBy 4 ({ frames := 2, cells := 0, slots := 0, locals := 54 }) D K ad z [.ref (ad 386), .int x1] (fun r u => Ok u ∧ KQ z u) := by
  refine t_enterL (by decide) (Nat.le_of_ble_eq_true rfl) rfl rfl ?_
  intro p e s m args below meth c A R Q H locs ls E hfr hlo RET G hl
  have E : mE p s m meth c cX11_summedBy args 4 RX11 D K A := E
  have hl : lv_has ls 4 [(0, .ref (ad 386)), (1, .int x1)] := hl
  refine lv_iconst (v := 0) E.1 E.2.1 dX11_summedBy_0 (by decide) ?_
  refine lv_istore_n (lv' := [(2, .int 0), (0, .ref (ad 386)), (1, .int x1)]) E.1 E.2.1 dX11_summedBy_1 rfl hl (by decide) rfl (fun ls hl => ?_)
  have LOOP2 : ∀ n : Nat, ∀ (zz2 : TS) (y1 : Int32) (H : Heap) (locs : List Loc) (ls : Array Slot), mG D A s H locs (wd K ad zz2) → Ok zz2 → KQ z zz2 → iv 0 12 y1 → 12 < y1.toInt + (n : Int) → lv_has ls 4 [(2, .int y1), (0, .ref (ad 386)), (1, .int x1)] → W p l e R s m args below meth c H locs 0 0 Q (F0 m 2 ls []) := by
    intro n
    induction n with
    | zero =>
      intro zz2 y1 H locs ls G oo3 kk4 b6 m5 hl
      exact absurd m5 (by have := b6.1; have := b6.2; omega)
    | succ n ih2 =>
      intro zz2 y1 H locs ls G oo3 kk4 b6 m5 hl
      refine lv_iload_n E.1 E.2.1 dX11_summedBy_2 rfl (lv_at hl 0 rfl) ?_
      refine lv_aload_n E.1 E.2.1 dX11_summedBy_3 rfl (lv_at hl 1 rfl) ?_
      refine t_get E G 11 6 (rfl : ro 386 = 11) (C := RX11) (T := TX11) (N := 37) rfl (by decide) (by decide) (by decide) mw_fl_11_23 (v := .ref (ad 391)) (fvl_o (n := 5) rfl) dX11_summedBy_4 ?_
      refine lv_iload_n E.1 E.2.1 dX11_summedBy_7 rfl (lv_at hl 2 rfl) ?_
      refine t_iald E G 49 (rfl : ro 391 = 49) (by decide) (by decide) rfl (n := 6) rfl (iv_vp bx1 (by decide) (by decide)) dX11_summedBy_8 ?_
      refine lv_topi (fun v7 e8 => ?_)
      have b9 : iv 0 12 v7 := by rw [e8]; exact iv_mono (rd_u oo3 49 (rfl : ro 391 = 49) (by decide) _) (by decide) (by decide)
      refine lv_icmp_ge (tgt := 84) E.1 E.2.1 dX11_summedBy_9 (by decide) (fun c10 => ?_) (fun c10 => ?_)
      · skip
        refine lv_lconst (v := 0) E.1 E.2.1 dX11_summedBy_84 (by decide) ?_
        exact RET G ⟨oo3, kk4⟩ dX11_summedBy_85
      · skip
        have b11 : iv 0 11 y1 := lt_l (Int32.not_le.mp c10) b6 b9 (by decide)
        have b12 : iv 1 12 v7 := lt_r (Int32.not_le.mp c10) b6 b9 (by decide)
        have h13 := smb_lt (z := z) kk4 e8 c10
        refine lv_bipush (v := 48) E.1 E.2.1 dX11_summedBy_12 (by decide) ?_
        refine lv_iload_n E.1 E.2.1 dX11_summedBy_14 rfl (lv_at hl 2 rfl) ?_
        refine lv_imul E.1 E.2.1 dX11_summedBy_15 ?_
        refine lv_topi (fun v14 e15 => ?_)
        have b16 : iv 0 240 v14 := by rw [e15]; exact iv_mulc' bx1 48 (by decide) (by decide) (by decide) (by decide) (by decide) (by decide)
        have l17 : v14.toInt = 0 + 48 * x1.toInt := (show v14.toInt = 48 * x1.toInt by rw [e15]; exact ti_cmul 48 (by decide) (by decide) bx1 (by decide) (by decide)).trans (by omega)
        refine lv_iconst (v := 4) E.1 E.2.1 dX11_summedBy_16 (by decide) ?_
        refine lv_iload_n E.1 E.2.1 dX11_summedBy_17 rfl (lv_at hl 0 rfl) ?_
        refine lv_imul E.1 E.2.1 dX11_summedBy_18 ?_
        refine lv_topi (fun v18 e19 => ?_)
        have b20 : iv 0 44 v18 := by rw [e19]; exact iv_mulc' b11 4 (by decide) (by decide) (by decide) (by decide) (by decide) (by decide)
        have l21 : v18.toInt = 0 + 4 * y1.toInt := (show v18.toInt = 4 * y1.toInt by rw [e19]; exact ti_cmul 4 (by decide) (by decide) b11 (by decide) (by decide)).trans (by omega)
        refine lv_iadd E.1 E.2.1 dX11_summedBy_19 ?_
        refine lv_topi (fun v22 e23 => ?_)
        have b24 : iv 0 284 v22 := by rw [e23]; exact iv_add b16 b20 (by decide) (by decide) (by decide) (by decide)
        have l25 : v22.toInt = 0 + 48 * x1.toInt + 4 * y1.toInt := (show v22.toInt = v14.toInt + v18.toInt by rw [e23]; exact ti_addv b16 b20 (by decide) (by decide)).trans (by omega)
        refine lv_istore_n (lv' := [(3, .int v22), (2, .int y1), (0, .ref (ad 386)), (1, .int x1)]) E.1 E.2.1 dX11_summedBy_20 rfl hl (by decide) rfl (fun ls hl => ?_)
        refine lv_aload_n E.1 E.2.1 dX11_summedBy_21 rfl (lv_at hl 2 rfl) ?_
        refine t_get E G 11 5 (rfl : ro 386 = 11) (C := RX11) (T := TX11) (N := 37) rfl (by decide) (by decide) (by decide) mw_fl_11_20 (v := .ref (ad 390)) (fvl_o (n := 4) rfl) dX11_summedBy_22 ?_
        refine lv_iload_n E.1 E.2.1 dX11_summedBy_25 rfl (lv_at hl 0 rfl) ?_
        refine lv_iconst (v := 2) E.1 E.2.1 dX11_summedBy_26 (by decide) ?_
        refine lv_iadd E.1 E.2.1 dX11_summedBy_27 ?_
        refine lv_topi (fun v26 e27 => ?_)
        have b28 : iv 2 286 v26 := by rw [e27]; exact iv_add b24 (iv_lit (lo := 2) (hi := 2) 2 (by decide) (by decide)) (by decide) (by decide) (by decide) (by decide)
        have l29 : v26.toInt = 2 + 48 * x1.toInt + 4 * y1.toInt := (show v26.toInt = v22.toInt + 2 by rw [e27]; exact ti_addc 2 (by decide) b24 (by decide) (by decide)).trans (by omega)
        refine t_iald E G 48 (rfl : ro 390 = 48) (by decide) (by decide) rfl (n := 288) rfl (iv_vp b28 (by decide) (by decide)) dX11_summedBy_28 ?_
        refine lv_topi (fun v30 e31 => ?_)
        have b32 : iv (-1) 400 v30 := by rw [e31]; exact rd2 oo3 48 (rfl : ro 390 = 48) 2 48 4 0 5 0 11 bx1 b11 (l29.trans (by omega)) (by decide +kernel)
        refine lv_if_lt (tgt := 58) E.1 E.2.1 dX11_summedBy_29 (by decide) (fun c33 => ?_) (fun c33 => ?_)
        · skip
          have b34 : iv (-1) (-1) v30 := lt_l c33 b32 (iv_lit (lo := 0) (hi := 0) 0 (by decide) (by decide)) (by decide)
          refine lv_aload_n E.1 E.2.1 dX11_summedBy_58 rfl (lv_at hl 2 rfl) ?_
          refine lv_iload_n E.1 E.2.1 dX11_summedBy_59 rfl (lv_at hl 3 rfl) ?_
          refine lv_aload_n E.1 E.2.1 dX11_summedBy_60 rfl (lv_at hl 2 rfl) ?_
          refine t_get E G 11 5 (rfl : ro 386 = 11) (C := RX11) (T := TX11) (N := 37) rfl (by decide) (by decide) (by decide) mw_fl_11_20 (v := .ref (ad 390)) (fvl_o (n := 4) rfl) dX11_summedBy_61 ?_
          refine lv_iload_n E.1 E.2.1 dX11_summedBy_64 rfl (lv_at hl 0 rfl) ?_
          refine t_iald E G 48 (rfl : ro 390 = 48) (by decide) (by decide) rfl (n := 288) rfl (iv_vp b24 (by decide) (by decide)) dX11_summedBy_65 ?_
          refine lv_topi (fun v35 e36 => ?_)
          have b37 : iv 0 400 v35 := by rw [e36]; exact rd2 oo3 48 (rfl : ro 390 = 48) 0 48 4 0 5 0 11 bx1 b11 (l25.trans (by omega)) (by decide +kernel)
          refine lv_aload_n E.1 E.2.1 dX11_summedBy_66 rfl (lv_at hl 2 rfl) ?_
          refine t_get E G 11 5 (rfl : ro 386 = 11) (C := RX11) (T := TX11) (N := 37) rfl (by decide) (by decide) (by decide) mw_fl_11_20 (v := .ref (ad 390)) (fvl_o (n := 4) rfl) dX11_summedBy_67 ?_
          refine lv_iload_n E.1 E.2.1 dX11_summedBy_70 rfl (lv_at hl 0 rfl) ?_
          refine lv_iconst (v := 1) E.1 E.2.1 dX11_summedBy_71 (by decide) ?_
          refine lv_iadd E.1 E.2.1 dX11_summedBy_72 ?_
          refine lv_topi (fun v38 e39 => ?_)
          have b40 : iv 1 285 v38 := by rw [e39]; exact iv_add b24 (iv_lit (lo := 1) (hi := 1) 1 (by decide) (by decide)) (by decide) (by decide) (by decide) (by decide)
          have l41 : v38.toInt = 1 + 48 * x1.toInt + 4 * y1.toInt := (show v38.toInt = v22.toInt + 1 by rw [e39]; exact ti_addc 1 (by decide) b24 (by decide) (by decide)).trans (by omega)
          refine t_iald E G 48 (rfl : ro 390 = 48) (by decide) (by decide) rfl (n := 288) rfl (iv_vp b40 (by decide) (by decide)) dX11_summedBy_73 ?_
          refine lv_topi (fun v42 e43 => ?_)
          have b44 : iv 0 400 v42 := by rw [e43]; exact rd2 oo3 48 (rfl : ro 390 = 48) 1 48 4 0 5 0 11 bx1 b11 (l41.trans (by omega)) (by decide +kernel)
          refine t_vl E G hl (v_reckons l D K ad zz2 oo3 x1 (iv_mono bx1 (by decide) (by decide)) v35 (iv_mono b37 (by decide) (by decide)) v42 (iv_mono b44 (by decide) (by decide)) (smb_a wf kk4 bx1 (iv_mono b11 (by decide) (by decide)) h13 (l25.trans (by omega)) (l41.trans (by omega)) e36 e43)) 11 (rfl : ro 386 = 11) (by decide) rfl rfl 3 rfl mw_code_X11_reckons mw_ini_11 mw_ml_11_326 mw_inst_X11_reckons mw_sel_X11_reckons hd_X11_reckons ⟨Nat.le_trans (by decide) hfr, Nat.le_trans (by decide) hlo⟩ rfl rfl rfl (Nat.le_of_ble_eq_true rfl) dX11_summedBy_74 (fun r46 zz45 H locs hp47 G => ?_)
          obtain ⟨oo48, kk49⟩ := hp47
          have kk50 : KQ z zz45 := KF.tr kk4 kk49
          exact RET G ⟨oo48, kk50⟩ dX11_summedBy_77
        · skip
          have b51 : iv 0 400 v30 := le_r (Int32.not_lt.mp c33) (iv_lit (lo := 0) (hi := 0) 0 (by decide) (by decide)) b32 (by decide)
          refine lv_aload_n E.1 E.2.1 dX11_summedBy_32 rfl (lv_at hl 2 rfl) ?_
          refine lv_iload_n E.1 E.2.1 dX11_summedBy_33 rfl (lv_at hl 3 rfl) ?_
          refine lv_aload_n E.1 E.2.1 dX11_summedBy_34 rfl (lv_at hl 2 rfl) ?_
          refine t_get E G 11 5 (rfl : ro 386 = 11) (C := RX11) (T := TX11) (N := 37) rfl (by decide) (by decide) (by decide) mw_fl_11_20 (v := .ref (ad 390)) (fvl_o (n := 4) rfl) dX11_summedBy_35 ?_
          refine lv_iload_n E.1 E.2.1 dX11_summedBy_38 rfl (lv_at hl 0 rfl) ?_
          refine lv_iconst (v := 2) E.1 E.2.1 dX11_summedBy_39 (by decide) ?_
          refine lv_iadd E.1 E.2.1 dX11_summedBy_40 ?_
          refine lv_topi (fun v52 e53 => ?_)
          have b54 : iv 2 286 v52 := by rw [e53]; exact iv_add b24 (iv_lit (lo := 2) (hi := 2) 2 (by decide) (by decide)) (by decide) (by decide) (by decide) (by decide)
          have l55 : v52.toInt = 2 + 48 * x1.toInt + 4 * y1.toInt := (show v52.toInt = v22.toInt + 2 by rw [e53]; exact ti_addc 2 (by decide) b24 (by decide) (by decide)).trans (by omega)
          refine t_iald E G 48 (rfl : ro 390 = 48) (by decide) (by decide) rfl (n := 288) rfl (iv_vp b54 (by decide) (by decide)) dX11_summedBy_41 ?_
          refine m_ci v30 (by rw [show v52 = v26 from Int32.toInt_inj.mp (by rw [l55, l29])]; exact e31.symm) ?_
          refine lv_aload_n E.1 E.2.1 dX11_summedBy_42 rfl (lv_at hl 2 rfl) ?_
          refine t_get E G 11 5 (rfl : ro 386 = 11) (C := RX11) (T := TX11) (N := 37) rfl (by decide) (by decide) (by decide) mw_fl_11_20 (v := .ref (ad 390)) (fvl_o (n := 4) rfl) dX11_summedBy_43 ?_
          refine lv_iload_n E.1 E.2.1 dX11_summedBy_46 rfl (lv_at hl 0 rfl) ?_
          refine lv_iconst (v := 3) E.1 E.2.1 dX11_summedBy_47 (by decide) ?_
          refine lv_iadd E.1 E.2.1 dX11_summedBy_48 ?_
          refine lv_topi (fun v56 e57 => ?_)
          have b58 : iv 3 287 v56 := by rw [e57]; exact iv_add b24 (iv_lit (lo := 3) (hi := 3) 3 (by decide) (by decide)) (by decide) (by decide) (by decide) (by decide)
          have l59 : v56.toInt = 3 + 48 * x1.toInt + 4 * y1.toInt := (show v56.toInt = v22.toInt + 3 by rw [e57]; exact ti_addc 3 (by decide) b24 (by decide) (by decide)).trans (by omega)
          refine t_iald E G 48 (rfl : ro 390 = 48) (by decide) (by decide) rfl (n := 288) rfl (iv_vp b58 (by decide) (by decide)) dX11_summedBy_49 ?_
          refine lv_topi (fun v60 e61 => ?_)
          have b62 : iv 0 400 v60 := by rw [e61]; exact rd2 oo3 48 (rfl : ro 390 = 48) 3 48 4 0 5 0 11 bx1 b11 (l59.trans (by omega)) (by decide +kernel)
          refine t_vl E G hl (v_reckons l D K ad zz2 oo3 x1 (iv_mono bx1 (by decide) (by decide)) v30 (iv_mono b51 (by decide) (by decide)) v60 (iv_mono b62 (by decide) (by decide)) (smb_b wf kk4 bx1 (iv_mono b11 (by decide) (by decide)) h13 (l29.trans (by omega)) (l59.trans (by omega)) e31 e61 (iv_mono b51 (by decide) (by decide)))) 11 (rfl : ro 386 = 11) (by decide) rfl rfl 3 rfl mw_code_X11_reckons mw_ini_11 mw_ml_11_326 mw_inst_X11_reckons mw_sel_X11_reckons hd_X11_reckons ⟨Nat.le_trans (by decide) hfr, Nat.le_trans (by decide) hlo⟩ rfl rfl rfl (Nat.le_of_ble_eq_true rfl) dX11_summedBy_50 (fun r64 zz63 H locs hp65 G => ?_)
          obtain ⟨oo66, kk67⟩ := hp65
          have kk68 : KQ z zz63 := KF.tr kk4 kk67
          refine lv_lconst (v := 1) E.1 E.2.1 dX11_summedBy_53 (by decide) ?_
          refine W.lcmp E.1 E.2.1 dX11_summedBy_54 ?_
          refine lv_topi (fun v69 e70 => ?_)
          have b71 : iv (-1) 1 v69 := by rw [e70]; exact lgc_iv _ _
          refine lv_if_ne (tgt := 78) E.1 E.2.1 dX11_summedBy_55 (by decide) (fun c72 => ?_) (fun c72 => ?_)
          · skip
            obtain ⟨v73, e74⟩ : ∃ w : Int32, w = y1 + (1 : Int32) := ⟨_, rfl⟩
            refine lv_iinc (v := v73) (lv' := [(2, .int v73), (3, .int v22), (0, .ref (ad 386)), (1, .int x1)]) E.1 E.2.1 dX11_summedBy_78 hl (k := 1) rfl (by rw [e74]; rfl) (by decide) rfl (fun ls hl => ?_)
            have b75 : iv 1 12 v73 := by rw [e74]; exact iv_add b11 (iv_lit (lo := 1) (hi := 1) 1 (by decide) (by decide)) (by decide) (by decide) (by decide) (by decide)
            have t76 : v73.toInt = y1.toInt + 1 := by rw [e74]; exact ti_addc 1 (by decide) b11 (by decide) (by decide)
            refine lv_goto (tgt := 2) E.1 E.2.1 dX11_summedBy_81 (by decide) ?_
            exact ih2 zz63 v73 H locs ls G oo66 kk68 (iv_mono b75 (by decide) (by decide)) (by have := t76; have := m5; omega) (lv_sub hl [0, 2, 3] rfl)
          · skip
            have b77 : iv 0 0 v69 := iv_eq c72 (iv_lit (lo := 0) (hi := 0) 0 (by decide) (by decide))
            refine lv_aload_n E.1 E.2.1 dX11_summedBy_58 rfl (lv_at hl 2 rfl) ?_
            refine lv_iload_n E.1 E.2.1 dX11_summedBy_59 rfl (lv_at hl 3 rfl) ?_
            refine lv_aload_n E.1 E.2.1 dX11_summedBy_60 rfl (lv_at hl 2 rfl) ?_
            refine t_get E G 11 5 (rfl : ro 386 = 11) (C := RX11) (T := TX11) (N := 37) rfl (by decide) (by decide) (by decide) mw_fl_11_20 (v := .ref (ad 390)) (fvl_o (n := 4) rfl) dX11_summedBy_61 ?_
            refine lv_iload_n E.1 E.2.1 dX11_summedBy_64 rfl (lv_at hl 0 rfl) ?_
            refine t_iald E G 48 (rfl : ro 390 = 48) (by decide) (by decide) rfl (n := 288) rfl (iv_vp b24 (by decide) (by decide)) dX11_summedBy_65 ?_
            refine lv_topi (fun v78 e79 => ?_)
            have b80 : iv 0 400 v78 := by rw [e79]; exact rd2 oo66 48 (rfl : ro 390 = 48) 0 48 4 0 5 0 11 bx1 b11 (l25.trans (by omega)) (by decide +kernel)
            refine lv_aload_n E.1 E.2.1 dX11_summedBy_66 rfl (lv_at hl 2 rfl) ?_
            refine t_get E G 11 5 (rfl : ro 386 = 11) (C := RX11) (T := TX11) (N := 37) rfl (by decide) (by decide) (by decide) mw_fl_11_20 (v := .ref (ad 390)) (fvl_o (n := 4) rfl) dX11_summedBy_67 ?_
            refine lv_iload_n E.1 E.2.1 dX11_summedBy_70 rfl (lv_at hl 0 rfl) ?_
            refine lv_iconst (v := 1) E.1 E.2.1 dX11_summedBy_71 (by decide) ?_
            refine lv_iadd E.1 E.2.1 dX11_summedBy_72 ?_
            refine lv_topi (fun v81 e82 => ?_)
            have b83 : iv 1 285 v81 := by rw [e82]; exact iv_add b24 (iv_lit (lo := 1) (hi := 1) 1 (by decide) (by decide)) (by decide) (by decide) (by decide) (by decide)
            have l84 : v81.toInt = 1 + 48 * x1.toInt + 4 * y1.toInt := (show v81.toInt = v22.toInt + 1 by rw [e82]; exact ti_addc 1 (by decide) b24 (by decide) (by decide)).trans (by omega)
            refine t_iald E G 48 (rfl : ro 390 = 48) (by decide) (by decide) rfl (n := 288) rfl (iv_vp b83 (by decide) (by decide)) dX11_summedBy_73 ?_
            refine lv_topi (fun v85 e86 => ?_)
            have b87 : iv 0 400 v85 := by rw [e86]; exact rd2 oo66 48 (rfl : ro 390 = 48) 1 48 4 0 5 0 11 bx1 b11 (l84.trans (by omega)) (by decide +kernel)
            refine t_vl E G hl (v_reckons l D K ad zz63 oo66 x1 (iv_mono bx1 (by decide) (by decide)) v78 (iv_mono b80 (by decide) (by decide)) v85 (iv_mono b87 (by decide) (by decide)) (smb_a wf kk68 bx1 (iv_mono b11 (by decide) (by decide)) h13 (l25.trans (by omega)) (l84.trans (by omega)) e79 e86)) 11 (rfl : ro 386 = 11) (by decide) rfl rfl 3 rfl mw_code_X11_reckons mw_ini_11 mw_ml_11_326 mw_inst_X11_reckons mw_sel_X11_reckons hd_X11_reckons ⟨Nat.le_trans (by decide) hfr, Nat.le_trans (by decide) hlo⟩ rfl rfl rfl (Nat.le_of_ble_eq_true rfl) dX11_summedBy_74 (fun r89 zz88 H locs hp90 G => ?_)
            obtain ⟨oo91, kk92⟩ := hp90
            have kk93 : KQ z zz88 := KF.tr kk68 kk92
            exact RET G ⟨oo91, kk93⟩ dX11_summedBy_77
  exact LOOP2 13 z 0 H locs ls G o KF.rf (iv_mono (iv_lit (lo := 0) (hi := 0) 0 (by decide) (by decide)) (by decide) (by decide)) (by have := (iv_lit (lo := 0) (hi := 0) 0 (by decide) (by decide)).1; omega) (lv_sub hl [0, 1, 2] rfl)
