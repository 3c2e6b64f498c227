theorem mw_code_X11_term : (Cond.code yX11_term cX11_term 2 (some .boolean) : Cond) ∈ cw := cw_of (List.mem_append_right _ (List.mem_append_right _ (List.mem_append_right _ (List.mem_append_right _ (List.mem_append_right _ (List.mem_append_right _ (List.mem_append_left _ (List.mem_of_getElem? (i := 79) rfl)))))))) (by decide +kernel)
theorem mw_inst_X11_term : (Cond.instanceMethod yX11_term : Cond) ∈ cw := cw_of (List.mem_append_right _ (List.mem_append_right _ (List.mem_append_right _ (List.mem_append_right _ (List.mem_append_right _ (List.mem_append_right _ (List.mem_append_left _ (List.mem_of_getElem? (i := 78) (by decide +kernel))))))))) (by decide +kernel)
theorem mw_ml_11_181 : (Cond.methodLink RX11 181 yX11_term : Cond) ∈ cw := cw_of (List.mem_append_right _ (List.mem_append_right _ (List.mem_append_right _ (List.mem_append_right _ (List.mem_append_right _ (List.mem_append_right _ (List.mem_append_left _ (List.mem_of_getElem? (i := 76) (by decide +kernel))))))))) (by decide +kernel)
theorem mw_sel_X11_term : (Cond.selects RX11 yX11_term yX11_term : Cond) ∈ cw := cw_of (List.mem_append_left _ (List.mem_of_getElem? (i := 66) (by decide +kernel))) (by decide +kernel)
theorem dX11_sum_0 : decode cX11_sum 0 = .ok (.aload_n 0, 1) := by decide +kernel
theorem dX11_sum_1 : decode cX11_sum 1 = .ok (.invokevirtual 181, 3) := by decide +kernel
theorem dX11_sum_4 : decode cX11_sum 4 = .ok (.ifCond .ne 5, 3) := by decide +kernel
theorem dX11_sum_7 : decode cX11_sum 7 = .ok (.iconst 0, 1) := by decide +kernel
theorem dX11_sum_8 : decode cX11_sum 8 = .ok (.ireturn, 1) := by decide +kernel
theorem dX11_sum_9 : decode cX11_sum 9 = .ok (.aload_n 0, 1) := by decide +kernel
theorem dX11_sum_10 : decode cX11_sum 10 = .ok (.invokevirtual 96, 3) := by decide +kernel
theorem dX11_sum_13 : decode cX11_sum 13 = .ok (.bipush 43, 2) := by decide +kernel
theorem dX11_sum_15 : decode cX11_sum 15 = .ok (.if_icmp .eq 12, 3) := by decide +kernel
theorem dX11_sum_18 : decode cX11_sum 18 = .ok (.aload_n 0, 1) := by decide +kernel
theorem dX11_sum_19 : decode cX11_sum 19 = .ok (.invokevirtual 96, 3) := by decide +kernel
theorem dX11_sum_22 : decode cX11_sum 22 = .ok (.bipush 45, 2) := by decide +kernel
theorem dX11_sum_24 : decode cX11_sum 24 = .ok (.if_icmp .ne 51, 3) := by decide +kernel
theorem dX11_sum_27 : decode cX11_sum 27 = .ok (.aload_n 0, 1) := by decide +kernel
theorem dX11_sum_28 : decode cX11_sum 28 = .ok (.getfield 7, 3) := by decide +kernel
theorem dX11_sum_31 : decode cX11_sum 31 = .ok (.aload_n 0, 1) := by decide +kernel
theorem dX11_sum_32 : decode cX11_sum 32 = .ok (.getfield 93, 3) := by decide +kernel
theorem dX11_sum_35 : decode cX11_sum 35 = .ok (.baload, 1) := by decide +kernel
theorem dX11_sum_36 : decode cX11_sum 36 = .ok (.bipush 43, 2) := by decide +kernel
theorem dX11_sum_38 : decode cX11_sum 38 = .ok (.if_icmp .ne 7, 3) := by decide +kernel
theorem dX11_sum_41 : decode cX11_sum 41 = .ok (.iconst 2, 1) := by decide +kernel
theorem dX11_sum_42 : decode cX11_sum 42 = .ok (.goto 4, 3) := by decide +kernel
theorem dX11_sum_45 : decode cX11_sum 45 = .ok (.iconst 3, 1) := by decide +kernel
theorem dX11_sum_46 : decode cX11_sum 46 = .ok (.istore_n 1, 1) := by decide +kernel
theorem dX11_sum_47 : decode cX11_sum 47 = .ok (.aload_n 0, 1) := by decide +kernel
theorem dX11_sum_48 : decode cX11_sum 48 = .ok (.dup, 1) := by decide +kernel
theorem dX11_sum_49 : decode cX11_sum 49 = .ok (.getfield 93, 3) := by decide +kernel
theorem dX11_sum_52 : decode cX11_sum 52 = .ok (.iconst 1, 1) := by decide +kernel
theorem dX11_sum_53 : decode cX11_sum 53 = .ok (.iadd, 1) := by decide +kernel
theorem dX11_sum_54 : decode cX11_sum 54 = .ok (.putfield 93, 3) := by decide +kernel
theorem dX11_sum_57 : decode cX11_sum 57 = .ok (.aload_n 0, 1) := by decide +kernel
theorem dX11_sum_58 : decode cX11_sum 58 = .ok (.invokevirtual 181, 3) := by decide +kernel
theorem dX11_sum_61 : decode cX11_sum 61 = .ok (.ifCond .ne 5, 3) := by decide +kernel
theorem dX11_sum_64 : decode cX11_sum 64 = .ok (.iconst 0, 1) := by decide +kernel
theorem dX11_sum_65 : decode cX11_sum 65 = .ok (.ireturn, 1) := by decide +kernel
theorem dX11_sum_66 : decode cX11_sum 66 = .ok (.aload_n 0, 1) := by decide +kernel
theorem dX11_sum_67 : decode cX11_sum 67 = .ok (.iload_n 1, 1) := by decide +kernel
theorem dX11_sum_68 : decode cX11_sum 68 = .ok (.iconst 0, 1) := by decide +kernel
theorem dX11_sum_69 : decode cX11_sum 69 = .ok (.invokevirtual 163, 3) := by decide +kernel
theorem dX11_sum_72 : decode cX11_sum 72 = .ok (.goto (-63), 3) := by decide +kernel
theorem dX11_sum_75 : decode cX11_sum 75 = .ok (.iconst 1, 1) := by decide +kernel
theorem dX11_sum_76 : decode cX11_sum 76 = .ok (.ireturn, 1) := by decide +kernel
theorem hd_X11_term : yX11_term.cls ≠ "java/lang/invoke/MethodHandle" ∧ yX11_term.cls ≠ "java/lang/invoke/VarHandle" ∧ (parseMethodDescriptor yX11_term.desc).map (fun d => d.parameters.length) = some 0 := ⟨by decide +kernel, by decide +kernel, by decide +kernel⟩
set_option maxHeartbeats 4000000 in
set_option maxRecDepth 100000 in
theorem v_sum (l : Launch) (D : va_G) (K : Nat → ClassId) (ad : Nat → Nat) (z : TS) (o : Ok z) (hp : PIx z) (hs : 0 ≤ SLk z) : cI l yX11_sum cX11_sum 2 .boolean ({ frames := 5, cells := 0, slots := 0, locals := 109 }) D K ad z [.ref (ad 386)] (fun r u => Ok u ∧ KP1 z u ∧ iv 0 1 r ∧ (Scx z u) ∧ (PIx u) ∧ (SLk z ≤ SLk u) ∧ (¬ r = 0 → Gd 1 0 z u)) := by
  have sc0 : Scx z z := Scx.rf hp.2.1
  have sl_0 : SLk z + 0 ≤ SLk z := sl_0
  have gd_0 : Gd 0 0 z z := Gd.rf
  refine t_enterI (by decide) (Nat.le_of_ble_eq_true rfl) rfl rfl ?_
  intro p e s m args below meth c A R Q H locs ls E hfr hlo RET G hl
  have E : mE p s m meth c cX11_sum args 2 RX11 D K A := E
  have hl : lv_has ls 2 [(0, .ref (ad 386))] := hl
  refine lv_aload_n E.1 E.2.1 dX11_sum_0 rfl (lv_at hl 0 rfl) ?_
  refine t_vi E G hl (v_term l D K ad z o hp (by have h1 := hs; have h2 := sl_0; omega)) 11 (rfl : ro 386 = 11) (by decide) rfl rfl 0 rfl mw_code_X11_term mw_ini_11 mw_ml_11_181 mw_inst_X11_term mw_sel_X11_term hd_X11_term ⟨Nat.le_trans (by decide) hfr, Nat.le_trans (by decide) hlo⟩ rfl rfl rfl (Nat.le_of_ble_eq_true rfl) dX11_sum_1 (fun r2 zz1 H locs hp3 G => ?_)
  obtain ⟨oo4, kk5, b6, h7, h8, h9, h10⟩ := hp3
  have kk11 : KP1 z zz1 := KPf.tr KPf.rf kk5
  have h12 := Scx.tr sc0 h7
  have h13 : SLk z + 0 ≤ SLk zz1 := by have h1 := sl_0; have h2 := h9; omega
  refine lv_if_ne (tgt := 9) E.1 E.2.1 dX11_sum_4 (by decide) (fun c14 => ?_) (fun c14 => ?_)
  · skip
    have b15 : iv 1 1 r2 := ne_lo c14 b6 (by decide) (by decide)
    have h16 : Gd 1 0 z zz1 := Gd.tr gd_0 (KPf.rf : KP1 z z) (h10 c14) (by decide) (by decide)
    have LOOP9 : ∀ n : Nat, ∀ (zz17 : TS) (H : Heap) (locs : List Loc) (ls : Array Slot), mG D A s H locs (wd K ad zz17) → Ok zz17 → KP1 z zz17 → Scx z zz17 → PIx zz17 → SLk z + 0 ≤ SLk zz17 → Gd 1 0 z zz17 → 400 < (tI zz17 386 8).toInt + (n : Int) → lv_has ls 2 [(0, .ref (ad 386))] → W p l e R s m args below meth c H locs 0 0 Q (F0 m 9 ls []) := by
      intro n
      induction n with
      | zero =>
        intro zz17 H locs ls G oo18 kk19 h21 h22 h23 h24 m20 hl
        exact absurd m20 (by have := (oo18.i (j := 386) 11 8 rfl).2; have e : ihi 11 8 = 400 := (by decide); omega)
      | succ n ih9 =>
        intro zz17 H locs ls G oo18 kk19 h21 h22 h23 h24 m20 hl
        refine lv_aload_n E.1 E.2.1 dX11_sum_9 rfl (lv_at hl 0 rfl) ?_
        have scl25 : Scx zz17 zz17 := Scx.rf h21.1
        refine t_vi E G hl (v_see l D K ad zz17 oo18 h21.1) 11 (rfl : ro 386 = 11) (by decide) rfl rfl 0 rfl mw_code_X11_see mw_ini_11 mw_ml_11_96 mw_inst_X11_see mw_sel_X11_see hd_X11_see ⟨Nat.le_trans (by decide) hfr, Nat.le_trans (by decide) hlo⟩ rfl rfl rfl (Nat.le_of_ble_eq_true rfl) dX11_sum_10 (fun r27 zz26 H locs hp28 G => ?_)
        obtain ⟨oo29, kk30, b31, h32, h33, h34, h35⟩ := hp28
        have kk36 : KP1 z zz26 := KPf.tr kk19 (KN8.p1 kk30)
        have h37 := Scx.tr h21 h32
        have h38 := Scx.tr scl25 h32
        have sm39 := Same.of kk30 rfl rfl rfl
        have h40 : PIx zz26 := pi_q h22 sm39 h37.1 (kk30.1 386 12 rfl) (kk30.1 386 11 rfl)
        have h41 : SLk z + 0 ≤ SLk zz26 := sl_q 0 h23 sm39 (by have h := h32.2; omega) (by decide)
        have h42 := Gd.sm h24 sm39
        refine lv_bipush (v := 43) E.1 E.2.1 dX11_sum_13 (by decide) ?_
        refine lv_icmp_eq (tgt := 27) E.1 E.2.1 dX11_sum_15 (by decide) (fun c43 => ?_) (fun c43 => ?_)
        · skip
          have b44 : iv 43 43 r27 := iv_eq c43 (iv_lit (lo := 43) (hi := 43) 43 (by decide) (by decide))
          have h45 : LSx zz26 := h35 (Int.le_trans (by decide) b44.1)
          refine lv_aload_n E.1 E.2.1 dX11_sum_27 rfl (lv_at hl 0 rfl) ?_
          refine t_get E G 11 0 (rfl : ro 386 = 11) (C := RX11) (T := TX11) (N := 37) rfl (by decide) (by decide) (by decide) mw_fl_11_7 (v := .ref (ad 387)) (fvl_o (n := 1) rfl) dX11_sum_28 ?_
          refine lv_aload_n E.1 E.2.1 dX11_sum_31 rfl (lv_at hl 0 rfl) ?_
          refine t_get E G 11 8 (rfl : ro 386 = 11) (C := RX11) (T := TX11) (N := 37) rfl (by decide) (by decide) (by decide) mw_fl_11_93 (fvl_i rfl) dX11_sum_32 ?_
          refine lv_topi (fun v46 e47 => ?_)
          have b48 : iv 0 400 v46 := by rw [e47]; exact oo29.i 11 8 (rfl : ro 386 = 11)
          have b49 : iv 0 399 v46 := LSx.iv oo29 h45 e47
          refine t_bald E G 45 (rfl : ro 387 = 45) (by decide) (by decide) rfl (n := 400) rfl (iv_vp b49 (by decide) (by decide)) dX11_sum_35 ?_
          refine lv_topi (fun v50 e51 => ?_)
          have b52 : iv (-128) 127 v50 := by rw [e51]; exact iv_mono (rd_u oo29 45 (rfl : ro 387 = 45) (by decide) _) (by decide) (by decide)
          refine lv_bipush (v := 43) E.1 E.2.1 dX11_sum_36 (by decide) ?_
          refine lv_icmp_ne (tgt := 45) E.1 E.2.1 dX11_sum_38 (by decide) (fun c53 => ?_) (fun c53 => ?_)
          · skip
            refine lv_iconst (v := 3) E.1 E.2.1 dX11_sum_45 (by decide) ?_
            refine lv_istore_n (lv' := [(1, .int 3), (0, .ref (ad 386))]) E.1 E.2.1 dX11_sum_46 rfl hl (by decide) rfl (fun ls hl => ?_)
            refine lv_aload_n E.1 E.2.1 dX11_sum_47 rfl (lv_at hl 1 rfl) ?_
            refine lv_dup E.1 E.2.1 dX11_sum_48 rfl ?_
            refine t_get E G 11 8 (rfl : ro 386 = 11) (C := RX11) (T := TX11) (N := 37) rfl (by decide) (by decide) (by decide) mw_fl_11_93 (fvl_i rfl) dX11_sum_49 ?_
            refine m_ci v46 e47.symm ?_
            refine lv_iconst (v := 1) E.1 E.2.1 dX11_sum_52 (by decide) ?_
            refine lv_iadd E.1 E.2.1 dX11_sum_53 ?_
            refine lv_topi (fun v54 e55 => ?_)
            have b56 : iv 1 400 v54 := by rw [e55]; exact iv_add b49 (iv_lit (lo := 1) (hi := 1) 1 (by decide) (by decide)) (by decide) (by decide) (by decide) (by decide)
            have l57 : v54.toInt = 1 + 1 * v46.toInt := (show v54.toInt = v46.toInt + 1 by rw [e55]; exact ti_addc 1 (by decide) b49 (by decide) (by decide)).trans (by omega)
            refine t_puti E G 11 8 (rfl : ro 386 = 11) (C := RX11) (T := TX11) (N := 37) rfl (by decide) (by decide) (by decide) rfl rfl mw_fl_11_93 rfl dX11_sum_54 (fun H locs G => ?_)
            obtain ⟨zz64, G, oo65, kk66, h67, h58, h59, h60, h61, h62, h63⟩ : ∃ u : TS, mG D A s H locs (wd K ad u) ∧ Ok u ∧ KP1 z u ∧ tI u 386 8 = v54 ∧ (Scx z u) ∧ (PIx u) ∧ (SLk z + 1 ≤ SLk u) ∧ (Gd 1 0 z u) ∧ (Scx zz17 u) ∧ ((tI zz17 386 8).toInt + 1 ≤ (tI u 386 8).toInt) := ⟨_, G, ok_i oo29 11 (rfl : ro 386 = 11) (iv_mono b56 (by decide) (by decide)) (by decide), KPf.tr kk36 (KPf_i 11 (rfl : ro 386 = 11) (by decide)), sI_self, (Scx.tr h37 (up_ls e47.symm.symm h45 (l57.trans (by omega))).1), (pi_q h40 (Same.i (by decide)) (up_ls e47.symm.symm h45 (l57.trans (by omega))).1.1 rfl rfl), (sl_q 1 h41 (Same.i (by decide)) (up_ls e47.symm.symm h45 (l57.trans (by omega))).2 (by decide)), (Gd.sm h42 (Same.i (by decide))), (Scx.tr h38 (up_ls e47.symm.symm h45 (l57.trans (by omega))).1), (by have h1 := (up_ls e47.symm.symm h45 (l57.trans (by omega))).2; have h2 := h38.2; omega)⟩
            refine lv_aload_n E.1 E.2.1 dX11_sum_57 rfl (lv_at hl 1 rfl) ?_
            refine t_vi E G hl (v_term l D K ad zz64 oo65 h59 (by have h1 := hs; have h2 := h60; omega)) 11 (rfl : ro 386 = 11) (by decide) rfl rfl 0 rfl mw_code_X11_term mw_ini_11 mw_ml_11_181 mw_inst_X11_term mw_sel_X11_term hd_X11_term ⟨Nat.le_trans (by decide) hfr, Nat.le_trans (by decide) hlo⟩ rfl rfl rfl (Nat.le_of_ble_eq_true rfl) dX11_sum_58 (fun r69 zz68 H locs hp70 G => ?_)
            obtain ⟨oo71, kk72, b73, h74, h75, h76, h77⟩ := hp70
            have kk78 : KP1 z zz68 := KPf.tr kk66 kk72
            have h79 := Scx.tr h58 h74
            have h80 := Scx.tr h62 h74
            have h81 : (tI zz17 386 8).toInt + 1 ≤ (tI zz68 386 8).toInt := by have h1 := h63; have h2 := h74.2; omega
            have h82 : SLk z + 1 ≤ SLk zz68 := by have h1 := h60; have h2 := h76; omega
            refine lv_if_ne (tgt := 66) E.1 E.2.1 dX11_sum_61 (by decide) (fun c83 => ?_) (fun c83 => ?_)
            · skip
              have b84 : iv 1 1 r69 := ne_lo c83 b73 (by decide) (by decide)
              have h85 : Gd 2 0 z zz68 := Gd.tr h61 kk66 (h77 c83) (by decide) (by decide)
              refine lv_aload_n E.1 E.2.1 dX11_sum_66 rfl (lv_at hl 1 rfl) ?_
              refine lv_iload_n E.1 E.2.1 dX11_sum_67 rfl (lv_at hl 0 rfl) ?_
              refine lv_iconst (v := 0) E.1 E.2.1 dX11_sum_68 (by decide) ?_
              refine t_vv E G hl (v_puts_op l D K ad zz68 oo71 (3 : Int32) (iv_mono (iv_lit (lo := 3) (hi := 3) 3 (by decide) (by decide)) (by decide) (by decide)) h75 (le399 oo71 (by have h1 := hs; have h2 := h82; omega)) (by decide)) 11 (rfl : ro 386 = 11) (by decide) rfl rfl 2 rfl mw_code_X11_puts mw_ini_11 mw_ml_11_163 mw_inst_X11_puts mw_sel_X11_puts hd_X11_puts ⟨Nat.le_trans (by decide) hfr, Nat.le_trans (by decide) hlo⟩ rfl rfl rfl (Nat.le_of_ble_eq_true rfl) dX11_sum_69 (fun zz86 H locs hp88 G => ?_)
              obtain ⟨oo89, kk90, h91, h92, h93⟩ := hp88
              have kk94 : KP1 z zz86 := KPf.tr kk78 (KPU.p1 kk90)
              have h95 := Scx.tr h79 (scx_p h79.1 kk90 rfl rfl)
              have h96 := Scx.tr h80 (scx_p h80.1 kk90 rfl rfl)
              have h97 : (tI zz17 386 8).toInt + 1 ≤ (tI zz86 386 8).toInt := by have h1 := h81; have h2 := (scx_p h80.1 kk90 rfl rfl).2; omega
              have h98 : SLk z + 0 ≤ SLk zz86 := by have h1 := h82; have h2 := h92; omega
              have h99 : Gd 1 0 z zz86 := Gd.tr h85 kk78 h93 (by decide) (by decide)
              refine lv_goto (tgt := 9) E.1 E.2.1 dX11_sum_72 (by decide) ?_
              exact ih9 zz86 H locs ls G oo89 kk94 h95 h91 (by have h := h98; omega) (Gd.wk h99 (by decide) (by decide)) (by have := h97; have := m20; omega) (lv_sub hl [1] rfl)
            · skip
              have b100 : iv 0 0 r69 := iv_eq c83 (iv_lit (lo := 0) (hi := 0) 0 (by decide) (by decide))
              refine lv_iconst (v := 0) E.1 E.2.1 dX11_sum_64 (by decide) ?_
              exact RET G ⟨oo71, kk78, (iv_mono (iv_lit (lo := 0) (hi := 0) 0 (by decide) (by decide)) (by decide) (by decide)), h79, h75, (by have h := h82; omega), (fun h => absurd rfl h)⟩ (by decide) dX11_sum_65
          · skip
            have b101 : iv 43 43 v50 := iv_eq c53 (iv_lit (lo := 43) (hi := 43) 43 (by decide) (by decide))
            refine lv_iconst (v := 2) E.1 E.2.1 dX11_sum_41 (by decide) ?_
            refine lv_goto (tgt := 46) E.1 E.2.1 dX11_sum_42 (by decide) ?_
            refine lv_istore_n (lv' := [(1, .int 2), (0, .ref (ad 386))]) E.1 E.2.1 dX11_sum_46 rfl hl (by decide) rfl (fun ls hl => ?_)
            refine lv_aload_n E.1 E.2.1 dX11_sum_47 rfl (lv_at hl 1 rfl) ?_
            refine lv_dup E.1 E.2.1 dX11_sum_48 rfl ?_
            refine t_get E G 11 8 (rfl : ro 386 = 11) (C := RX11) (T := TX11) (N := 37) rfl (by decide) (by decide) (by decide) mw_fl_11_93 (fvl_i rfl) dX11_sum_49 ?_
            refine m_ci v46 e47.symm ?_
            refine lv_iconst (v := 1) E.1 E.2.1 dX11_sum_52 (by decide) ?_
            refine lv_iadd E.1 E.2.1 dX11_sum_53 ?_
            refine lv_topi (fun v102 e103 => ?_)
            have b104 : iv 1 400 v102 := by rw [e103]; exact iv_add b49 (iv_lit (lo := 1) (hi := 1) 1 (by decide) (by decide)) (by decide) (by decide) (by decide) (by decide)
            have l105 : v102.toInt = 1 + 1 * v46.toInt := (show v102.toInt = v46.toInt + 1 by rw [e103]; exact ti_addc 1 (by decide) b49 (by decide) (by decide)).trans (by omega)
            refine t_puti E G 11 8 (rfl : ro 386 = 11) (C := RX11) (T := TX11) (N := 37) rfl (by decide) (by decide) (by decide) rfl rfl mw_fl_11_93 rfl dX11_sum_54 (fun H locs G => ?_)
            obtain ⟨zz112, G, oo113, kk114, h115, h106, h107, h108, h109, h110, h111⟩ : ∃ u : TS, mG D A s H locs (wd K ad u) ∧ Ok u ∧ KP1 z u ∧ tI u 386 8 = v102 ∧ (Scx z u) ∧ (PIx u) ∧ (SLk z + 1 ≤ SLk u) ∧ (Gd 1 0 z u) ∧ (Scx zz17 u) ∧ ((tI zz17 386 8).toInt + 1 ≤ (tI u 386 8).toInt) := ⟨_, G, ok_i oo29 11 (rfl : ro 386 = 11) (iv_mono b104 (by decide) (by decide)) (by decide), KPf.tr kk36 (KPf_i 11 (rfl : ro 386 = 11) (by decide)), sI_self, (Scx.tr h37 (up_ls e47.symm.symm h45 (l105.trans (by omega))).1), (pi_q h40 (Same.i (by decide)) (up_ls e47.symm.symm h45 (l105.trans (by omega))).1.1 rfl rfl), (sl_q 1 h41 (Same.i (by decide)) (up_ls e47.symm.symm h45 (l105.trans (by omega))).2 (by decide)), (Gd.sm h42 (Same.i (by decide))), (Scx.tr h38 (up_ls e47.symm.symm h45 (l105.trans (by omega))).1), (by have h1 := (up_ls e47.symm.symm h45 (l105.trans (by omega))).2; have h2 := h38.2; omega)⟩
            refine lv_aload_n E.1 E.2.1 dX11_sum_57 rfl (lv_at hl 1 rfl) ?_
            refine t_vi E G hl (v_term l D K ad zz112 oo113 h107 (by have h1 := hs; have h2 := h108; omega)) 11 (rfl : ro 386 = 11) (by decide) rfl rfl 0 rfl mw_code_X11_term mw_ini_11 mw_ml_11_181 mw_inst_X11_term mw_sel_X11_term hd_X11_term ⟨Nat.le_trans (by decide) hfr, Nat.le_trans (by decide) hlo⟩ rfl rfl rfl (Nat.le_of_ble_eq_true rfl) dX11_sum_58 (fun r117 zz116 H locs hp118 G => ?_)
            obtain ⟨oo119, kk120, b121, h122, h123, h124, h125⟩ := hp118
            have kk126 : KP1 z zz116 := KPf.tr kk114 kk120
            have h127 := Scx.tr h106 h122
            have h128 := Scx.tr h110 h122
            have h129 : (tI zz17 386 8).toInt + 1 ≤ (tI zz116 386 8).toInt := by have h1 := h111; have h2 := h122.2; omega
            have h130 : SLk z + 1 ≤ SLk zz116 := by have h1 := h108; have h2 := h124; omega
            refine lv_if_ne (tgt := 66) E.1 E.2.1 dX11_sum_61 (by decide) (fun c131 => ?_) (fun c131 => ?_)
            · skip
              have b132 : iv 1 1 r117 := ne_lo c131 b121 (by decide) (by decide)
              have h133 : Gd 2 0 z zz116 := Gd.tr h109 kk114 (h125 c131) (by decide) (by decide)
              refine lv_aload_n E.1 E.2.1 dX11_sum_66 rfl (lv_at hl 1 rfl) ?_
              refine lv_iload_n E.1 E.2.1 dX11_sum_67 rfl (lv_at hl 0 rfl) ?_
              refine lv_iconst (v := 0) E.1 E.2.1 dX11_sum_68 (by decide) ?_
              refine t_vv E G hl (v_puts_op l D K ad zz116 oo119 (2 : Int32) (iv_mono (iv_lit (lo := 2) (hi := 2) 2 (by decide) (by decide)) (by decide) (by decide)) h123 (le399 oo119 (by have h1 := hs; have h2 := h130; omega)) (by decide)) 11 (rfl : ro 386 = 11) (by decide) rfl rfl 2 rfl mw_code_X11_puts mw_ini_11 mw_ml_11_163 mw_inst_X11_puts mw_sel_X11_puts hd_X11_puts ⟨Nat.le_trans (by decide) hfr, Nat.le_trans (by decide) hlo⟩ rfl rfl rfl (Nat.le_of_ble_eq_true rfl) dX11_sum_69 (fun zz134 H locs hp136 G => ?_)
              obtain ⟨oo137, kk138, h139, h140, h141⟩ := hp136
              have kk142 : KP1 z zz134 := KPf.tr kk126 (KPU.p1 kk138)
              have h143 := Scx.tr h127 (scx_p h127.1 kk138 rfl rfl)
              have h144 := Scx.tr h128 (scx_p h128.1 kk138 rfl rfl)
              have h145 : (tI zz17 386 8).toInt + 1 ≤ (tI zz134 386 8).toInt := by have h1 := h129; have h2 := (scx_p h128.1 kk138 rfl rfl).2; omega
              have h146 : SLk z + 0 ≤ SLk zz134 := by have h1 := h130; have h2 := h140; omega
              have h147 : Gd 1 0 z zz134 := Gd.tr h133 kk126 h141 (by decide) (by decide)
              refine lv_goto (tgt := 9) E.1 E.2.1 dX11_sum_72 (by decide) ?_
              exact ih9 zz134 H locs ls G oo137 kk142 h143 h139 (by have h := h146; omega) (Gd.wk h147 (by decide) (by decide)) (by have := h145; have := m20; omega) (lv_sub hl [1] rfl)
            · skip
              have b148 : iv 0 0 r117 := iv_eq c131 (iv_lit (lo := 0) (hi := 0) 0 (by decide) (by decide))
              refine lv_iconst (v := 0) E.1 E.2.1 dX11_sum_64 (by decide) ?_
              exact RET G ⟨oo119, kk126, (iv_mono (iv_lit (lo := 0) (hi := 0) 0 (by decide) (by decide)) (by decide) (by decide)), h127, h123, (by have h := h130; omega), (fun h => absurd rfl h)⟩ (by decide) dX11_sum_65
        · skip
          refine lv_aload_n E.1 E.2.1 dX11_sum_18 rfl (lv_at hl 0 rfl) ?_
          refine t_vi E G hl (v_see l D K ad zz26 oo29 h37.1) 11 (rfl : ro 386 = 11) (by decide) rfl rfl 0 rfl mw_code_X11_see mw_ini_11 mw_ml_11_96 mw_inst_X11_see mw_sel_X11_see hd_X11_see ⟨Nat.le_trans (by decide) hfr, Nat.le_trans (by decide) hlo⟩ rfl rfl rfl (Nat.le_of_ble_eq_true rfl) dX11_sum_19 (fun r150 zz149 H locs hp151 G => ?_)
          obtain ⟨oo152, kk153, b154, h155, h156, h157, h158⟩ := hp151
          have kk159 : KP1 z zz149 := KPf.tr kk36 (KN8.p1 kk153)
          have h160 := Scx.tr h37 h155
          have h161 := Scx.tr h38 h155
          have sm162 := Same.of kk153 rfl rfl rfl
          have h163 : PIx zz149 := pi_q h40 sm162 h160.1 (kk153.1 386 12 rfl) (kk153.1 386 11 rfl)
          have h164 : SLk z + 0 ≤ SLk zz149 := sl_q 0 h41 sm162 (by have h := h155.2; omega) (by decide)
          have h165 := Gd.sm h42 sm162
          refine lv_bipush (v := 45) E.1 E.2.1 dX11_sum_22 (by decide) ?_
          refine lv_icmp_ne (tgt := 75) E.1 E.2.1 dX11_sum_24 (by decide) (fun c166 => ?_) (fun c166 => ?_)
          · skip
            refine lv_iconst (v := 1) E.1 E.2.1 dX11_sum_75 (by decide) ?_
            exact RET G ⟨oo152, kk159, (iv_mono (iv_lit (lo := 1) (hi := 1) 1 (by decide) (by decide)) (by decide) (by decide)), h160, h163, (by have h := h164; omega), (fun _ => Gd.wk h165 (by decide) (by decide))⟩ (by decide) dX11_sum_76
          · skip
            have b167 : iv 45 45 r150 := iv_eq c166 (iv_lit (lo := 45) (hi := 45) 45 (by decide) (by decide))
            have h168 : LSx zz149 := h158 (Int.le_trans (by decide) b167.1)
            refine lv_aload_n E.1 E.2.1 dX11_sum_27 rfl (lv_at hl 0 rfl) ?_
            refine t_get E G 11 0 (rfl : ro 386 = 11) (C := RX11) (T := TX11) (N := 37) rfl (by decide) (by decide) (by decide) mw_fl_11_7 (v := .ref (ad 387)) (fvl_o (n := 1) rfl) dX11_sum_28 ?_
            refine lv_aload_n E.1 E.2.1 dX11_sum_31 rfl (lv_at hl 0 rfl) ?_
            refine t_get E G 11 8 (rfl : ro 386 = 11) (C := RX11) (T := TX11) (N := 37) rfl (by decide) (by decide) (by decide) mw_fl_11_93 (fvl_i rfl) dX11_sum_32 ?_
            refine lv_topi (fun v169 e170 => ?_)
            have b171 : iv 0 400 v169 := by rw [e170]; exact oo152.i 11 8 (rfl : ro 386 = 11)
            have b172 : iv 0 399 v169 := LSx.iv oo152 h168 e170
            refine t_bald E G 45 (rfl : ro 387 = 45) (by decide) (by decide) rfl (n := 400) rfl (iv_vp b172 (by decide) (by decide)) dX11_sum_35 ?_
            refine lv_topi (fun v173 e174 => ?_)
            have b175 : iv (-128) 127 v173 := by rw [e174]; exact iv_mono (rd_u oo152 45 (rfl : ro 387 = 45) (by decide) _) (by decide) (by decide)
            refine lv_bipush (v := 43) E.1 E.2.1 dX11_sum_36 (by decide) ?_
            refine lv_icmp_ne (tgt := 45) E.1 E.2.1 dX11_sum_38 (by decide) (fun c176 => ?_) (fun c176 => ?_)
            · skip
              refine lv_iconst (v := 3) E.1 E.2.1 dX11_sum_45 (by decide) ?_
              refine lv_istore_n (lv' := [(1, .int 3), (0, .ref (ad 386))]) E.1 E.2.1 dX11_sum_46 rfl hl (by decide) rfl (fun ls hl => ?_)
              refine lv_aload_n E.1 E.2.1 dX11_sum_47 rfl (lv_at hl 1 rfl) ?_
              refine lv_dup E.1 E.2.1 dX11_sum_48 rfl ?_
              refine t_get E G 11 8 (rfl : ro 386 = 11) (C := RX11) (T := TX11) (N := 37) rfl (by decide) (by decide) (by decide) mw_fl_11_93 (fvl_i rfl) dX11_sum_49 ?_
              refine m_ci v169 e170.symm ?_
              refine lv_iconst (v := 1) E.1 E.2.1 dX11_sum_52 (by decide) ?_
              refine lv_iadd E.1 E.2.1 dX11_sum_53 ?_
              refine lv_topi (fun v177 e178 => ?_)
              have b179 : iv 1 400 v177 := by rw [e178]; exact iv_add b172 (iv_lit (lo := 1) (hi := 1) 1 (by decide) (by decide)) (by decide) (by decide) (by decide) (by decide)
              have l180 : v177.toInt = 1 + 1 * v169.toInt := (show v177.toInt = v169.toInt + 1 by rw [e178]; exact ti_addc 1 (by decide) b172 (by decide) (by decide)).trans (by omega)
              refine t_puti E G 11 8 (rfl : ro 386 = 11) (C := RX11) (T := TX11) (N := 37) rfl (by decide) (by decide) (by decide) rfl rfl mw_fl_11_93 rfl dX11_sum_54 (fun H locs G => ?_)
              obtain ⟨zz187, G, oo188, kk189, h190, h181, h182, h183, h184, h185, h186⟩ : ∃ u : TS, mG D A s H locs (wd K ad u) ∧ Ok u ∧ KP1 z u ∧ tI u 386 8 = v177 ∧ (Scx z u) ∧ (PIx u) ∧ (SLk z + 1 ≤ SLk u) ∧ (Gd 1 0 z u) ∧ (Scx zz17 u) ∧ ((tI zz17 386 8).toInt + 1 ≤ (tI u 386 8).toInt) := ⟨_, G, ok_i oo152 11 (rfl : ro 386 = 11) (iv_mono b179 (by decide) (by decide)) (by decide), KPf.tr kk159 (KPf_i 11 (rfl : ro 386 = 11) (by decide)), sI_self, (Scx.tr h160 (up_ls e170.symm.symm h168 (l180.trans (by omega))).1), (pi_q h163 (Same.i (by decide)) (up_ls e170.symm.symm h168 (l180.trans (by omega))).1.1 rfl rfl), (sl_q 1 h164 (Same.i (by decide)) (up_ls e170.symm.symm h168 (l180.trans (by omega))).2 (by decide)), (Gd.sm h165 (Same.i (by decide))), (Scx.tr h161 (up_ls e170.symm.symm h168 (l180.trans (by omega))).1), (by have h1 := (up_ls e170.symm.symm h168 (l180.trans (by omega))).2; have h2 := h161.2; omega)⟩
              refine lv_aload_n E.1 E.2.1 dX11_sum_57 rfl (lv_at hl 1 rfl) ?_
              refine t_vi E G hl (v_term l D K ad zz187 oo188 h182 (by have h1 := hs; have h2 := h183; omega)) 11 (rfl : ro 386 = 11) (by decide) rfl rfl 0 rfl mw_code_X11_term mw_ini_11 mw_ml_11_181 mw_inst_X11_term mw_sel_X11_term hd_X11_term ⟨Nat.le_trans (by decide) hfr, Nat.le_trans (by decide) hlo⟩ rfl rfl rfl (Nat.le_of_ble_eq_true rfl) dX11_sum_58 (fun r192 zz191 H locs hp193 G => ?_)
              obtain ⟨oo194, kk195, b196, h197, h198, h199, h200⟩ := hp193
              have kk201 : KP1 z zz191 := KPf.tr kk189 kk195
              have h202 := Scx.tr h181 h197
              have h203 := Scx.tr h185 h197
              have h204 : (tI zz17 386 8).toInt + 1 ≤ (tI zz191 386 8).toInt := by have h1 := h186; have h2 := h197.2; omega
              have h205 : SLk z + 1 ≤ SLk zz191 := by have h1 := h183; have h2 := h199; omega
              refine lv_if_ne (tgt := 66) E.1 E.2.1 dX11_sum_61 (by decide) (fun c206 => ?_) (fun c206 => ?_)
              · skip
                have b207 : iv 1 1 r192 := ne_lo c206 b196 (by decide) (by decide)
                have h208 : Gd 2 0 z zz191 := Gd.tr h184 kk189 (h200 c206) (by decide) (by decide)
                refine lv_aload_n E.1 E.2.1 dX11_sum_66 rfl (lv_at hl 1 rfl) ?_
                refine lv_iload_n E.1 E.2.1 dX11_sum_67 rfl (lv_at hl 0 rfl) ?_
                refine lv_iconst (v := 0) E.1 E.2.1 dX11_sum_68 (by decide) ?_
                refine t_vv E G hl (v_puts_op l D K ad zz191 oo194 (3 : Int32) (iv_mono (iv_lit (lo := 3) (hi := 3) 3 (by decide) (by decide)) (by decide) (by decide)) h198 (le399 oo194 (by have h1 := hs; have h2 := h205; omega)) (by decide)) 11 (rfl : ro 386 = 11) (by decide) rfl rfl 2 rfl mw_code_X11_puts mw_ini_11 mw_ml_11_163 mw_inst_X11_puts mw_sel_X11_puts hd_X11_puts ⟨Nat.le_trans (by decide) hfr, Nat.le_trans (by decide) hlo⟩ rfl rfl rfl (Nat.le_of_ble_eq_true rfl) dX11_sum_69 (fun zz209 H locs hp211 G => ?_)
                obtain ⟨oo212, kk213, h214, h215, h216⟩ := hp211
                have kk217 : KP1 z zz209 := KPf.tr kk201 (KPU.p1 kk213)
                have h218 := Scx.tr h202 (scx_p h202.1 kk213 rfl rfl)
                have h219 := Scx.tr h203 (scx_p h203.1 kk213 rfl rfl)
                have h220 : (tI zz17 386 8).toInt + 1 ≤ (tI zz209 386 8).toInt := by have h1 := h204; have h2 := (scx_p h203.1 kk213 rfl rfl).2; omega
                have h221 : SLk z + 0 ≤ SLk zz209 := by have h1 := h205; have h2 := h215; omega
                have h222 : Gd 1 0 z zz209 := Gd.tr h208 kk201 h216 (by decide) (by decide)
                refine lv_goto (tgt := 9) E.1 E.2.1 dX11_sum_72 (by decide) ?_
                exact ih9 zz209 H locs ls G oo212 kk217 h218 h214 (by have h := h221; omega) (Gd.wk h222 (by decide) (by decide)) (by have := h220; have := m20; omega) (lv_sub hl [1] rfl)
              · skip
                have b223 : iv 0 0 r192 := iv_eq c206 (iv_lit (lo := 0) (hi := 0) 0 (by decide) (by decide))
                refine lv_iconst (v := 0) E.1 E.2.1 dX11_sum_64 (by decide) ?_
                exact RET G ⟨oo194, kk201, (iv_mono (iv_lit (lo := 0) (hi := 0) 0 (by decide) (by decide)) (by decide) (by decide)), h202, h198, (by have h := h205; omega), (fun h => absurd rfl h)⟩ (by decide) dX11_sum_65
            · skip
              have b224 : iv 43 43 v173 := iv_eq c176 (iv_lit (lo := 43) (hi := 43) 43 (by decide) (by decide))
              refine lv_iconst (v := 2) E.1 E.2.1 dX11_sum_41 (by decide) ?_
              refine lv_goto (tgt := 46) E.1 E.2.1 dX11_sum_42 (by decide) ?_
              refine lv_istore_n (lv' := [(1, .int 2), (0, .ref (ad 386))]) E.1 E.2.1 dX11_sum_46 rfl hl (by decide) rfl (fun ls hl => ?_)
              refine lv_aload_n E.1 E.2.1 dX11_sum_47 rfl (lv_at hl 1 rfl) ?_
              refine lv_dup E.1 E.2.1 dX11_sum_48 rfl ?_
              refine t_get E G 11 8 (rfl : ro 386 = 11) (C := RX11) (T := TX11) (N := 37) rfl (by decide) (by decide) (by decide) mw_fl_11_93 (fvl_i rfl) dX11_sum_49 ?_
              refine m_ci v169 e170.symm ?_
              refine lv_iconst (v := 1) E.1 E.2.1 dX11_sum_52 (by decide) ?_
              refine lv_iadd E.1 E.2.1 dX11_sum_53 ?_
              refine lv_topi (fun v225 e226 => ?_)
              have b227 : iv 1 400 v225 := by rw [e226]; exact iv_add b172 (iv_lit (lo := 1) (hi := 1) 1 (by decide) (by decide)) (by decide) (by decide) (by decide) (by decide)
              have l228 : v225.toInt = 1 + 1 * v169.toInt := (show v225.toInt = v169.toInt + 1 by rw [e226]; exact ti_addc 1 (by decide) b172 (by decide) (by decide)).trans (by omega)
              refine t_puti E G 11 8 (rfl : ro 386 = 11) (C := RX11) (T := TX11) (N := 37) rfl (by decide) (by decide) (by decide) rfl rfl mw_fl_11_93 rfl dX11_sum_54 (fun H locs G => ?_)
              obtain ⟨zz235, G, oo236, kk237, h238, h229, h230, h231, h232, h233, h234⟩ : ∃ u : TS, mG D A s H locs (wd K ad u) ∧ Ok u ∧ KP1 z u ∧ tI u 386 8 = v225 ∧ (Scx z u) ∧ (PIx u) ∧ (SLk z + 1 ≤ SLk u) ∧ (Gd 1 0 z u) ∧ (Scx zz17 u) ∧ ((tI zz17 386 8).toInt + 1 ≤ (tI u 386 8).toInt) := ⟨_, G, ok_i oo152 11 (rfl : ro 386 = 11) (iv_mono b227 (by decide) (by decide)) (by decide), KPf.tr kk159 (KPf_i 11 (rfl : ro 386 = 11) (by decide)), sI_self, (Scx.tr h160 (up_ls e170.symm.symm h168 (l228.trans (by omega))).1), (pi_q h163 (Same.i (by decide)) (up_ls e170.symm.symm h168 (l228.trans (by omega))).1.1 rfl rfl), (sl_q 1 h164 (Same.i (by decide)) (up_ls e170.symm.symm h168 (l228.trans (by omega))).2 (by decide)), (Gd.sm h165 (Same.i (by decide))), (Scx.tr h161 (up_ls e170.symm.symm h168 (l228.trans (by omega))).1), (by have h1 := (up_ls e170.symm.symm h168 (l228.trans (by omega))).2; have h2 := h161.2; omega)⟩
              refine lv_aload_n E.1 E.2.1 dX11_sum_57 rfl (lv_at hl 1 rfl) ?_
              refine t_vi E G hl (v_term l D K ad zz235 oo236 h230 (by have h1 := hs; have h2 := h231; omega)) 11 (rfl : ro 386 = 11) (by decide) rfl rfl 0 rfl mw_code_X11_term mw_ini_11 mw_ml_11_181 mw_inst_X11_term mw_sel_X11_term hd_X11_term ⟨Nat.le_trans (by decide) hfr, Nat.le_trans (by decide) hlo⟩ rfl rfl rfl (Nat.le_of_ble_eq_true rfl) dX11_sum_58 (fun r240 zz239 H locs hp241 G => ?_)
              obtain ⟨oo242, kk243, b244, h245, h246, h247, h248⟩ := hp241
              have kk249 : KP1 z zz239 := KPf.tr kk237 kk243
              have h250 := Scx.tr h229 h245
              have h251 := Scx.tr h233 h245
              have h252 : (tI zz17 386 8).toInt + 1 ≤ (tI zz239 386 8).toInt := by have h1 := h234; have h2 := h245.2; omega
              have h253 : SLk z + 1 ≤ SLk zz239 := by have h1 := h231; have h2 := h247; omega
              refine lv_if_ne (tgt := 66) E.1 E.2.1 dX11_sum_61 (by decide) (fun c254 => ?_) (fun c254 => ?_)
              · skip
                have b255 : iv 1 1 r240 := ne_lo c254 b244 (by decide) (by decide)
                have h256 : Gd 2 0 z zz239 := Gd.tr h232 kk237 (h248 c254) (by decide) (by decide)
                refine lv_aload_n E.1 E.2.1 dX11_sum_66 rfl (lv_at hl 1 rfl) ?_
                refine lv_iload_n E.1 E.2.1 dX11_sum_67 rfl (lv_at hl 0 rfl) ?_
                refine lv_iconst (v := 0) E.1 E.2.1 dX11_sum_68 (by decide) ?_
                refine t_vv E G hl (v_puts_op l D K ad zz239 oo242 (2 : Int32) (iv_mono (iv_lit (lo := 2) (hi := 2) 2 (by decide) (by decide)) (by decide) (by decide)) h246 (le399 oo242 (by have h1 := hs; have h2 := h253; omega)) (by decide)) 11 (rfl : ro 386 = 11) (by decide) rfl rfl 2 rfl mw_code_X11_puts mw_ini_11 mw_ml_11_163 mw_inst_X11_puts mw_sel_X11_puts hd_X11_puts ⟨Nat.le_trans (by decide) hfr, Nat.le_trans (by decide) hlo⟩ rfl rfl rfl (Nat.le_of_ble_eq_true rfl) dX11_sum_69 (fun zz257 H locs hp259 G => ?_)
                obtain ⟨oo260, kk261, h262, h263, h264⟩ := hp259
                have kk265 : KP1 z zz257 := KPf.tr kk249 (KPU.p1 kk261)
                have h266 := Scx.tr h250 (scx_p h250.1 kk261 rfl rfl)
                have h267 := Scx.tr h251 (scx_p h251.1 kk261 rfl rfl)
                have h268 : (tI zz17 386 8).toInt + 1 ≤ (tI zz257 386 8).toInt := by have h1 := h252; have h2 := (scx_p h251.1 kk261 rfl rfl).2; omega
                have h269 : SLk z + 0 ≤ SLk zz257 := by have h1 := h253; have h2 := h263; omega
                have h270 : Gd 1 0 z zz257 := Gd.tr h256 kk249 h264 (by decide) (by decide)
                refine lv_goto (tgt := 9) E.1 E.2.1 dX11_sum_72 (by decide) ?_
                exact ih9 zz257 H locs ls G oo260 kk265 h266 h262 (by have h := h269; omega) (Gd.wk h270 (by decide) (by decide)) (by have := h268; have := m20; omega) (lv_sub hl [1] rfl)
              · skip
                have b271 : iv 0 0 r240 := iv_eq c254 (iv_lit (lo := 0) (hi := 0) 0 (by decide) (by decide))
                refine lv_iconst (v := 0) E.1 E.2.1 dX11_sum_64 (by decide) ?_
                exact RET G ⟨oo242, kk249, (iv_mono (iv_lit (lo := 0) (hi := 0) 0 (by decide) (by decide)) (by decide) (by decide)), h250, h246, (by have h := h253; omega), (fun h => absurd rfl h)⟩ (by decide) dX11_sum_65
    exact LOOP9 401 zz1 H locs ls G oo4 kk11 h12 h8 (by have h := h13; omega) (Gd.wk h16 (by decide) (by decide)) (by have := (oo4.i (j := 386) 11 8 rfl).1; have e : ilo 11 8 = 0 := (by decide); omega) (lv_sub hl [0] rfl)
  · skip
    have b272 : iv 0 0 r2 := iv_eq c14 (iv_lit (lo := 0) (hi := 0) 0 (by decide) (by decide))
    refine lv_iconst (v := 0) E.1 E.2.1 dX11_sum_7 (by decide) ?_
    exact RET G ⟨oo4, kk11, (iv_mono (iv_lit (lo := 0) (hi := 0) 0 (by decide) (by decide)) (by decide) (by decide)), h12, h8, (by have h := h13; omega), (fun h => absurd rfl h)⟩ (by decide) dX11_sum_8
