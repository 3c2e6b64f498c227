theorem mw_code_X11_isLetter : (Cond.code yX11_isLetter cX11_isLetter 2 (some .boolean) : Cond) ∈ cw := cw_of (List.mem_append_right _ (List.mem_append_right _ (List.mem_append_right _ (List.mem_append_right _ (List.mem_append_right _ (List.mem_append_right _ (List.mem_append_left _ (List.mem_of_getElem? (i := 20) rfl)))))))) (by decide +kernel)
theorem mw_code_X11_see : (Cond.code yX11_see cX11_see 1 (some .int) : Cond) ∈ cw := cw_of (List.mem_append_right _ (List.mem_append_right _ (List.mem_append_right _ (List.mem_append_right _ (List.mem_append_right _ (List.mem_append_right _ (List.mem_append_left _ (List.mem_of_getElem? (i := 7) rfl)))))))) (by decide +kernel)
theorem mw_inst_X11_isLetter : (Cond.instanceMethod yX11_isLetter : Cond) ∈ cw := cw_of (List.mem_append_right _ (List.mem_append_right _ (List.mem_append_right _ (List.mem_append_right _ (List.mem_append_right _ (List.mem_append_right _ (List.mem_append_left _ (List.mem_of_getElem? (i := 19) (by decide +kernel))))))))) (by decide +kernel)
theorem mw_inst_X11_see : (Cond.instanceMethod yX11_see : Cond) ∈ cw := cw_of (List.mem_append_right _ (List.mem_append_right _ (List.mem_append_right _ (List.mem_append_right _ (List.mem_append_right _ (List.mem_append_right _ (List.mem_append_left _ (List.mem_of_getElem? (i := 6) (by decide +kernel))))))))) (by decide +kernel)
theorem mw_ml_11_100 : (Cond.methodLink RX11 100 yX11_isLetter : Cond) ∈ cw := cw_of (List.mem_append_right _ (List.mem_append_right _ (List.mem_append_right _ (List.mem_append_right _ (List.mem_append_right _ (List.mem_append_right _ (List.mem_append_left _ (List.mem_of_getElem? (i := 17) (by decide +kernel))))))))) (by decide +kernel)
theorem mw_ml_11_96 : (Cond.methodLink RX11 96 yX11_see : Cond) ∈ cw := cw_of (List.mem_append_right _ (List.mem_append_right _ (List.mem_append_right _ (List.mem_append_right _ (List.mem_append_right _ (List.mem_append_right _ (List.mem_append_left _ (List.mem_of_getElem? (i := 4) (by decide +kernel))))))))) (by decide +kernel)
theorem mw_sel_X11_isLetter : (Cond.selects RX11 yX11_isLetter yX11_isLetter : Cond) ∈ cw := cw_of (List.mem_append_left _ (List.mem_of_getElem? (i := 53) (by decide +kernel))) (by decide +kernel)
theorem mw_sel_X11_see : (Cond.selects RX11 yX11_see yX11_see : Cond) ∈ cw := cw_of (List.mem_append_left _ (List.mem_of_getElem? (i := 50) (by decide +kernel))) (by decide +kernel)
theorem dX11_isWord_0 : decode cX11_isWord 0 = .ok (.aload_n 0, 1) := by decide +kernel
theorem dX11_isWord_1 : decode cX11_isWord 1 = .ok (.invokevirtual 96, 3) := by decide +kernel
theorem dX11_isWord_4 : decode cX11_isWord 4 = .ok (.pop, 1) := by decide +kernel
theorem dX11_isWord_5 : decode cX11_isWord 5 = .ok (.lconst 0, 1) := by decide +kernel
theorem dX11_isWord_6 : decode cX11_isWord 6 = .ok (.lstore_n 3, 1) := by decide +kernel
theorem dX11_isWord_7 : decode cX11_isWord 7 = .ok (.iconst 0, 1) := by decide +kernel
theorem dX11_isWord_8 : decode cX11_isWord 8 = .ok (.istore 5, 2) := by decide +kernel
theorem dX11_isWord_10 : decode cX11_isWord 10 = .ok (.aload_n 0, 1) := by decide +kernel
theorem dX11_isWord_11 : decode cX11_isWord 11 = .ok (.aload_n 0, 1) := by decide +kernel
theorem dX11_isWord_12 : decode cX11_isWord 12 = .ok (.getfield 93, 3) := by decide +kernel
theorem dX11_isWord_15 : decode cX11_isWord 15 = .ok (.iload 5, 2) := by decide +kernel
theorem dX11_isWord_17 : decode cX11_isWord 17 = .ok (.iadd, 1) := by decide +kernel
theorem dX11_isWord_18 : decode cX11_isWord 18 = .ok (.invokevirtual 100, 3) := by decide +kernel
theorem dX11_isWord_21 : decode cX11_isWord 21 = .ok (.ifCond .eq 35, 3) := by decide +kernel
theorem dX11_isWord_24 : decode cX11_isWord 24 = .ok (.iload 5, 2) := by decide +kernel
theorem dX11_isWord_26 : decode cX11_isWord 26 = .ok (.bipush 8, 2) := by decide +kernel
theorem dX11_isWord_28 : decode cX11_isWord 28 = .ok (.if_icmp .ge 22, 3) := by decide +kernel
theorem dX11_isWord_31 : decode cX11_isWord 31 = .ok (.lload_n 3, 1) := by decide +kernel
theorem dX11_isWord_32 : decode cX11_isWord 32 = .ok (.bipush 8, 2) := by decide +kernel
theorem dX11_isWord_34 : decode cX11_isWord 34 = .ok (.lshl, 1) := by decide +kernel
theorem dX11_isWord_35 : decode cX11_isWord 35 = .ok (.aload_n 0, 1) := by decide +kernel
theorem dX11_isWord_36 : decode cX11_isWord 36 = .ok (.getfield 7, 3) := by decide +kernel
theorem dX11_isWord_39 : decode cX11_isWord 39 = .ok (.aload_n 0, 1) := by decide +kernel
theorem dX11_isWord_40 : decode cX11_isWord 40 = .ok (.getfield 93, 3) := by decide +kernel
theorem dX11_isWord_43 : decode cX11_isWord 43 = .ok (.iload 5, 2) := by decide +kernel
theorem dX11_isWord_45 : decode cX11_isWord 45 = .ok (.iadd, 1) := by decide +kernel
theorem dX11_isWord_46 : decode cX11_isWord 46 = .ok (.baload, 1) := by decide +kernel
theorem dX11_isWord_47 : decode cX11_isWord 47 = .ok (.i2l, 1) := by decide +kernel
theorem dX11_isWord_48 : decode cX11_isWord 48 = .ok (.lor, 1) := by decide +kernel
theorem dX11_isWord_49 : decode cX11_isWord 49 = .ok (.lstore_n 3, 1) := by decide +kernel
theorem dX11_isWord_50 : decode cX11_isWord 50 = .ok (.iinc 5 1, 3) := by decide +kernel
theorem dX11_isWord_53 : decode cX11_isWord 53 = .ok (.goto (-43), 3) := by decide +kernel
theorem dX11_isWord_56 : decode cX11_isWord 56 = .ok (.iload 5, 2) := by decide +kernel
theorem dX11_isWord_58 : decode cX11_isWord 58 = .ok (.ifCond .le 20, 3) := by decide +kernel
theorem dX11_isWord_61 : decode cX11_isWord 61 = .ok (.iload 5, 2) := by decide +kernel
theorem dX11_isWord_63 : decode cX11_isWord 63 = .ok (.bipush 8, 2) := by decide +kernel
theorem dX11_isWord_65 : decode cX11_isWord 65 = .ok (.if_icmp .ge 13, 3) := by decide +kernel
theorem dX11_isWord_68 : decode cX11_isWord 68 = .ok (.lload_n 3, 1) := by decide +kernel
theorem dX11_isWord_69 : decode cX11_isWord 69 = .ok (.lload_n 1, 1) := by decide +kernel
theorem dX11_isWord_70 : decode cX11_isWord 70 = .ok (.lcmp, 1) := by decide +kernel
theorem dX11_isWord_71 : decode cX11_isWord 71 = .ok (.ifCond .ne 7, 3) := by decide +kernel
theorem dX11_isWord_74 : decode cX11_isWord 74 = .ok (.iconst 1, 1) := by decide +kernel
theorem dX11_isWord_75 : decode cX11_isWord 75 = .ok (.goto 4, 3) := by decide +kernel
theorem dX11_isWord_78 : decode cX11_isWord 78 = .ok (.iconst 0, 1) := by decide +kernel
theorem dX11_isWord_79 : decode cX11_isWord 79 = .ok (.ireturn, 1) := by decide +kernel
theorem hd_X11_isLetter : yX11_isLetter.cls ≠ "java/lang/invoke/MethodHandle" ∧ yX11_isLetter.cls ≠ "java/lang/invoke/VarHandle" ∧ (parseMethodDescriptor yX11_isLetter.desc).map (fun d => d.parameters.length) = some 1 := ⟨by decide +kernel, by decide +kernel, by decide +kernel⟩
theorem hd_X11_see : yX11_see.cls ≠ "java/lang/invoke/MethodHandle" ∧ yX11_see.cls ≠ "java/lang/invoke/VarHandle" ∧ (parseMethodDescriptor yX11_see.desc).map (fun d => d.parameters.length) = some 0 := ⟨by decide +kernel, by decide +kernel, by decide +kernel⟩
set_option maxHeartbeats 4000000 in
set_option maxRecDepth 100000 in
theorem v_isWord (l : Launch) (D : va_G) (K : Nat → ClassId) (ad : Nat → Nat) (z : TS) (o : Ok z) (w1 : Int64) (hn : NXx z) : cI l yX11_isWord cX11_isWord 6 .boolean ({ frames := 1, cells := 0, slots := 0, locals := 21 }) D K ad z [.ref (ad 386), .long w1] (fun r u => Ok u ∧ KN8 z u ∧ iv 0 1 r ∧ (Scx z u) ∧ (SNx u) ∧ (SNx z → tI u 386 8 = tI z 386 8) ∧ (¬ r = 0 → LTx u)) := by
  have sc0 : Scx z z := Scx.rf hn
  refine t_enterI (by decide) (Nat.le_of_ble_eq_true rfl) rfl rfl ?_
  intro p e s m args below meth c A R Q H locs ls E hfr hlo RET G hl
  have E : mE p s m meth c cX11_isWord args 6 RX11 D K A := E
  have hl : lv_has ls 6 [(0, .ref (ad 386)), (1, .long w1)] := hl
  refine lv_aload_n E.1 E.2.1 dX11_isWord_0 rfl (lv_at hl 0 rfl) ?_
  refine t_vi E G hl (v_see l D K ad z o sc0.1) 11 (rfl : ro 386 = 11) (by decide) rfl rfl 0 rfl mw_code_X11_see mw_ini_11 mw_ml_11_96 mw_inst_X11_see mw_sel_X11_see hd_X11_see ⟨Nat.le_trans (by decide) hfr, Nat.le_trans (by decide) hlo⟩ rfl rfl rfl (Nat.le_of_ble_eq_true rfl) dX11_isWord_1 (fun r2 zz1 H locs hp3 G => ?_)
  obtain ⟨oo4, kk5, b6, h7, h8, h9, h10⟩ := hp3
  have kk11 : KN8 z zz1 := KF.tr KF.rf kk5
  have h12 := Scx.tr sc0 h7
  refine lv_pop E.1 E.2.1 dX11_isWord_4 rfl ?_
  refine lv_lconst (v := 0) E.1 E.2.1 dX11_isWord_5 (by decide) ?_
  refine lv_lstore_n (lv' := [(3, .long 0), (0, .ref (ad 386)), (1, .long w1)]) E.1 E.2.1 dX11_isWord_6 rfl hl (by decide) rfl (fun ls hl => ?_)
  refine lv_iconst (v := 0) E.1 E.2.1 dX11_isWord_7 (by decide) ?_
  refine lv_istore (lv' := [(5, .int 0), (3, .long 0), (0, .ref (ad 386)), (1, .long w1)]) E.1 E.2.1 dX11_isWord_8 hl (by decide) rfl (fun ls hl => ?_)
  have LOOP10 : ∀ n : Nat, ∀ (y13 : Int32) (y14 : Int64) (H : Heap) (locs : List Loc) (ls : Array Slot), mG D A s H locs (wd K ad zz1) → iv 0 400 y13 → (0 < y13.toInt → LTx zz1) → 400 < y13.toInt + (n : Int) → lv_has ls 6 [(5, .int y13), (3, .long y14), (0, .ref (ad 386)), (1, .long w1)] → W p l e R s m args below meth c H locs 0 0 Q (F0 m 10 ls []) := by
    intro n
    induction n with
    | zero =>
      intro y13 y14 H locs ls G b19 h20 m18 hl
      exact absurd m18 (by have := b19.1; have := b19.2; omega)
    | succ n ih10 =>
      intro y13 y14 H locs ls G b19 h20 m18 hl
      refine lv_aload_n E.1 E.2.1 dX11_isWord_10 rfl (lv_at hl 2 rfl) ?_
      refine lv_aload_n E.1 E.2.1 dX11_isWord_11 rfl (lv_at hl 2 rfl) ?_
      refine t_get E G 11 8 (rfl : ro 386 = 11) (C := RX11) (T := TX11) (N := 37) rfl (by decide) (by decide) (by decide) mw_fl_11_93 (fvl_i rfl) dX11_isWord_12 ?_
      refine lv_topi (fun v21 e22 => ?_)
      have b23 : iv 0 400 v21 := by rw [e22]; exact oo4.i 11 8 (rfl : ro 386 = 11)
      refine lv_iload E.1 E.2.1 dX11_isWord_15 (lv_at hl 0 rfl) ?_
      refine lv_iadd E.1 E.2.1 dX11_isWord_17 ?_
      refine lv_topi (fun v24 e25 => ?_)
      have b26 : iv 0 800 v24 := by rw [e25]; exact iv_add b23 b19 (by decide) (by decide) (by decide) (by decide)
      have l27 : v24.toInt = 0 + 1 * v21.toInt + 1 * y13.toInt := (show v24.toInt = v21.toInt + y13.toInt by rw [e25]; exact ti_addv b23 b19 (by decide) (by decide)).trans (by omega)
      refine t_vi E G hl (v_isLetter l D K ad zz1 oo4 v24 (iv_mono b26 (by decide) (by decide))) 11 (rfl : ro 386 = 11) (by decide) rfl rfl 1 rfl mw_code_X11_isLetter mw_ini_11 mw_ml_11_100 mw_inst_X11_isLetter mw_sel_X11_isLetter hd_X11_isLetter ⟨Nat.le_trans (by decide) hfr, Nat.le_trans (by decide) hlo⟩ rfl rfl rfl (Nat.le_of_ble_eq_true rfl) dX11_isWord_18 (fun r29 zz28 H locs hp30 G => ?_)
      obtain ⟨hz34, b31, h32, h33⟩ := hp30
      rw [hz34] at G
      refine lv_if_eq (tgt := 56) E.1 E.2.1 dX11_isWord_21 (by decide) (fun c35 => ?_) (fun c35 => ?_)
      · skip
        have b36 : iv 0 0 r29 := iv_eq c35 (iv_lit (lo := 0) (hi := 0) 0 (by decide) (by decide))
        refine lv_iload E.1 E.2.1 dX11_isWord_56 (lv_at hl 0 rfl) ?_
        refine lv_if_le (tgt := 78) E.1 E.2.1 dX11_isWord_58 (by decide) (fun c37 => ?_) (fun c37 => ?_)
        · skip
          have b38 : iv 0 0 y13 := le_l c37 b19 (iv_lit (lo := 0) (hi := 0) 0 (by decide) (by decide)) (by decide)
          refine lv_iconst (v := 0) E.1 E.2.1 dX11_isWord_78 (by decide) ?_
          exact RET G ⟨oo4, kk11, (iv_mono (iv_lit (lo := 0) (hi := 0) 0 (by decide) (by decide)) (by decide) (by decide)), h12, h8, h9, (fun h => absurd rfl h)⟩ (by decide) dX11_isWord_79
        · skip
          have b39 : iv 1 400 y13 := lt_r (Int32.not_le.mp c37) (iv_lit (lo := 0) (hi := 0) 0 (by decide) (by decide)) b19 (by decide)
          refine lv_iload E.1 E.2.1 dX11_isWord_61 (lv_at hl 0 rfl) ?_
          refine lv_bipush (v := 8) E.1 E.2.1 dX11_isWord_63 (by decide) ?_
          refine lv_icmp_ge (tgt := 78) E.1 E.2.1 dX11_isWord_65 (by decide) (fun c40 => ?_) (fun c40 => ?_)
          · skip
            have b41 : iv 8 400 y13 := le_r c40 (iv_lit (lo := 8) (hi := 8) 8 (by decide) (by decide)) b39 (by decide)
            refine lv_iconst (v := 0) E.1 E.2.1 dX11_isWord_78 (by decide) ?_
            exact RET G ⟨oo4, kk11, (iv_mono (iv_lit (lo := 0) (hi := 0) 0 (by decide) (by decide)) (by decide) (by decide)), h12, h8, h9, (fun h => absurd rfl h)⟩ (by decide) dX11_isWord_79
          · skip
            have b42 : iv 1 7 y13 := lt_l (Int32.not_le.mp c40) b39 (iv_lit (lo := 8) (hi := 8) 8 (by decide) (by decide)) (by decide)
            refine lv_lload_n E.1 E.2.1 dX11_isWord_68 rfl (lv_at hl 1 rfl) ?_
            refine lv_lload_n E.1 E.2.1 dX11_isWord_69 rfl (lv_at hl 3 rfl) ?_
            refine W.lcmp E.1 E.2.1 dX11_isWord_70 ?_
            refine lv_topi (fun v43 e44 => ?_)
            have b45 : iv (-1) 1 v43 := by rw [e44]; exact lgc_iv _ _
            refine lv_if_ne (tgt := 78) E.1 E.2.1 dX11_isWord_71 (by decide) (fun c46 => ?_) (fun c46 => ?_)
            · skip
              refine lv_iconst (v := 0) E.1 E.2.1 dX11_isWord_78 (by decide) ?_
              exact RET G ⟨oo4, kk11, (iv_mono (iv_lit (lo := 0) (hi := 0) 0 (by decide) (by decide)) (by decide) (by decide)), h12, h8, h9, (fun h => absurd rfl h)⟩ (by decide) dX11_isWord_79
            · skip
              have b47 : iv 0 0 v43 := iv_eq c46 (iv_lit (lo := 0) (hi := 0) 0 (by decide) (by decide))
              refine lv_iconst (v := 1) E.1 E.2.1 dX11_isWord_74 (by decide) ?_
              refine lv_goto (tgt := 79) E.1 E.2.1 dX11_isWord_75 (by decide) ?_
              exact RET G ⟨oo4, kk11, (iv_mono (iv_lit (lo := 1) (hi := 1) 1 (by decide) (by decide)) (by decide) (by decide)), h12, h8, h9, (fun _ => h20 (by have := Int32.lt_iff_toInt_lt.mp (Int32.not_le.mp c37); have e : (0 : Int32).toInt = 0 := (by decide); omega))⟩ (by decide) dX11_isWord_79
      · skip
        have b48 : iv 1 1 r29 := ne_lo c35 b31 (by decide) (by decide)
        have h49 : v24.toInt < 400 := by have h := (h32 c35).1; have b := (oo4.i (j := 386) 11 1 rfl).2; have e : ihi 11 1 = 400 := (by decide); omega
        have b50 : iv 0 399 y13 := ⟨b19.1, by have := h49; have := l27; have := b23.1; omega⟩
        have b51 : iv 0 399 v24 := ⟨b26.1, by omega⟩
        refine lv_iload E.1 E.2.1 dX11_isWord_24 (lv_at hl 0 rfl) ?_
        refine lv_bipush (v := 8) E.1 E.2.1 dX11_isWord_26 (by decide) ?_
        refine lv_icmp_ge (tgt := 50) E.1 E.2.1 dX11_isWord_28 (by decide) (fun c52 => ?_) (fun c52 => ?_)
        · skip
          have b53 : iv 8 399 y13 := le_r c52 (iv_lit (lo := 8) (hi := 8) 8 (by decide) (by decide)) b50 (by decide)
          obtain ⟨v54, e55⟩ : ∃ w : Int32, w = y13 + (1 : Int32) := ⟨_, rfl⟩
          refine lv_iinc (v := v54) (lv' := [(5, .int v54), (3, .long y14), (0, .ref (ad 386)), (1, .long w1)]) E.1 E.2.1 dX11_isWord_50 hl (k := 0) rfl (by rw [e55]; rfl) (by decide) rfl (fun ls hl => ?_)
          have b56 : iv 9 400 v54 := by rw [e55]; exact iv_add b53 (iv_lit (lo := 1) (hi := 1) 1 (by decide) (by decide)) (by decide) (by decide) (by decide) (by decide)
          have t57 : v54.toInt = y13.toInt + 1 := by rw [e55]; exact ti_addc 1 (by decide) b53 (by decide) (by decide)
          refine lv_goto (tgt := 10) E.1 E.2.1 dX11_isWord_53 (by decide) ?_
          exact ih10 v54 y14 H locs ls G (iv_mono b56 (by decide) (by decide)) (fun _ => lw_step h20 (h32 c35) e22 (l27.trans (by omega)) (by have := b53.1; omega)) (by have := t57; have := m18; omega) (lv_sub hl [0, 1, 2, 3] rfl)
        · skip
          have b58 : iv 0 7 y13 := lt_l (Int32.not_le.mp c52) b50 (iv_lit (lo := 8) (hi := 8) 8 (by decide) (by decide)) (by decide)
          refine lv_lload_n E.1 E.2.1 dX11_isWord_31 rfl (lv_at hl 1 rfl) ?_
          refine lv_bipush (v := 8) E.1 E.2.1 dX11_isWord_32 (by decide) ?_
          refine lv_lshl E.1 E.2.1 dX11_isWord_34 rfl ?_
          refine lv_topl (fun v59 e60 => ?_)
          refine lv_aload_n E.1 E.2.1 dX11_isWord_35 rfl (lv_at hl 2 rfl) ?_
          refine t_get E G 11 0 (rfl : ro 386 = 11) (C := RX11) (T := TX11) (N := 37) rfl (by decide) (by decide) (by decide) mw_fl_11_7 (v := .ref (ad 387)) (fvl_o (n := 1) rfl) dX11_isWord_36 ?_
          refine lv_aload_n E.1 E.2.1 dX11_isWord_39 rfl (lv_at hl 2 rfl) ?_
          refine t_get E G 11 8 (rfl : ro 386 = 11) (C := RX11) (T := TX11) (N := 37) rfl (by decide) (by decide) (by decide) mw_fl_11_93 (fvl_i rfl) dX11_isWord_40 ?_
          refine m_ci v21 e22.symm ?_
          refine lv_iload E.1 E.2.1 dX11_isWord_43 (lv_at hl 0 rfl) ?_
          refine lv_iadd E.1 E.2.1 dX11_isWord_45 ?_
          refine lv_topi (fun v61 e62 => ?_)
          have b63 : iv 0 407 v61 := by rw [e62]; exact iv_add b23 b58 (by decide) (by decide) (by decide) (by decide)
          have l64 : v61.toInt = 0 + 1 * v21.toInt + 1 * y13.toInt := (show v61.toInt = v21.toInt + y13.toInt by rw [e62]; exact ti_addv b23 b58 (by decide) (by decide)).trans (by omega)
          refine t_bald E G 45 (rfl : ro 387 = 45) (by decide) (by decide) rfl (n := 400) rfl (iv_vp (show iv 0 399 v61 from ⟨b63.1, by have := l64; have := l27; have := b51.2; omega⟩) (by decide) (by decide)) dX11_isWord_46 ?_
          refine lv_topi (fun v65 e66 => ?_)
          have b67 : iv (-128) 127 v65 := by rw [e66]; exact iv_mono (rd_u oo4 45 (rfl : ro 387 = 45) (by decide) _) (by decide) (by decide)
          refine lv_i2l E.1 E.2.1 dX11_isWord_47 rfl ?_
          refine lv_topl (fun v68 e69 => ?_)
          refine lv_lor E.1 E.2.1 dX11_isWord_48 ?_
          refine lv_topl (fun v70 e71 => ?_)
          refine lv_lstore_n (lv' := [(3, .long v70), (5, .int y13), (0, .ref (ad 386)), (1, .long w1)]) E.1 E.2.1 dX11_isWord_49 rfl hl (by decide) rfl (fun ls hl => ?_)
          obtain ⟨v72, e73⟩ : ∃ w : Int32, w = y13 + (1 : Int32) := ⟨_, rfl⟩
          refine lv_iinc (v := v72) (lv' := [(5, .int v72), (3, .long v70), (0, .ref (ad 386)), (1, .long w1)]) E.1 E.2.1 dX11_isWord_50 hl (k := 1) rfl (by rw [e73]; rfl) (by decide) rfl (fun ls hl => ?_)
          have b74 : iv 1 8 v72 := by rw [e73]; exact iv_add b58 (iv_lit (lo := 1) (hi := 1) 1 (by decide) (by decide)) (by decide) (by decide) (by decide) (by decide)
          have t75 : v72.toInt = y13.toInt + 1 := by rw [e73]; exact ti_addc 1 (by decide) b58 (by decide) (by decide)
          refine lv_goto (tgt := 10) E.1 E.2.1 dX11_isWord_53 (by decide) ?_
          exact ih10 v72 v70 H locs ls G (iv_mono b74 (by decide) (by decide)) (fun _ => lw_step h20 (h32 c35) e22 (l27.trans (by omega)) (by have := b58.1; omega)) (by have := t75; have := m18; omega) (lv_sub hl [0, 1, 2, 3] rfl)
  exact LOOP10 401 0 0 H locs ls G (iv_mono (iv_lit (lo := 0) (hi := 0) 0 (by decide) (by decide)) (by decide) (by decide)) (fun q => absurd q (by decide)) (by have := (iv_lit (lo := 0) (hi := 0) 0 (by decide) (by decide)).1; omega) (lv_sub hl [0, 1, 2, 3] rfl)
