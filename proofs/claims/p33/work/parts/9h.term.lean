theorem mw_code_X11_value : (Cond.code yX11_value cX11_value 3 (some .boolean) : Cond) ∈ cw := cw_of (List.mem_append_right _ (List.mem_append_right _ (List.mem_append_right _ (List.mem_append_right _ (List.mem_append_right _ (List.mem_append_right _ (List.mem_append_left _ (List.mem_of_getElem? (i := 83) rfl)))))))) (by decide +kernel)
theorem mw_inst_X11_value : (Cond.instanceMethod yX11_value : Cond) ∈ cw := cw_of (List.mem_append_right _ (List.mem_append_right _ (List.mem_append_right _ (List.mem_append_right _ (List.mem_append_right _ (List.mem_append_right _ (List.mem_append_left _ (List.mem_of_getElem? (i := 82) (by decide +kernel))))))))) (by decide +kernel)
theorem mw_ml_11_177 : (Cond.methodLink RX11 177 yX11_value : Cond) ∈ cw := cw_of (List.mem_append_right _ (List.mem_append_right _ (List.mem_append_right _ (List.mem_append_right _ (List.mem_append_right _ (List.mem_append_right _ (List.mem_append_left _ (List.mem_of_getElem? (i := 80) (by decide +kernel))))))))) (by decide +kernel)
theorem mw_sel_X11_value : (Cond.selects RX11 yX11_value yX11_value : Cond) ∈ cw := cw_of (List.mem_append_left _ (List.mem_of_getElem? (i := 67) (by decide +kernel))) (by decide +kernel)
theorem dX11_term_0 : decode cX11_term 0 = .ok (.aload_n 0, 1) := by decide +kernel
theorem dX11_term_1 : decode cX11_term 1 = .ok (.invokevirtual 177, 3) := by decide +kernel
theorem dX11_term_4 : decode cX11_term 4 = .ok (.ifCond .ne 5, 3) := by decide +kernel
theorem dX11_term_7 : decode cX11_term 7 = .ok (.iconst 0, 1) := by decide +kernel
theorem dX11_term_8 : decode cX11_term 8 = .ok (.ireturn, 1) := by decide +kernel
theorem dX11_term_9 : decode cX11_term 9 = .ok (.aload_n 0, 1) := by decide +kernel
theorem dX11_term_10 : decode cX11_term 10 = .ok (.invokevirtual 96, 3) := by decide +kernel
theorem dX11_term_13 : decode cX11_term 13 = .ok (.bipush 42, 2) := by decide +kernel
theorem dX11_term_15 : decode cX11_term 15 = .ok (.if_icmp .eq 21, 3) := by decide +kernel
theorem dX11_term_18 : decode cX11_term 18 = .ok (.aload_n 0, 1) := by decide +kernel
theorem dX11_term_19 : decode cX11_term 19 = .ok (.invokevirtual 96, 3) := by decide +kernel
theorem dX11_term_22 : decode cX11_term 22 = .ok (.bipush 47, 2) := by decide +kernel
theorem dX11_term_24 : decode cX11_term 24 = .ok (.if_icmp .eq 12, 3) := by decide +kernel
theorem dX11_term_27 : decode cX11_term 27 = .ok (.aload_n 0, 1) := by decide +kernel
theorem dX11_term_28 : decode cX11_term 28 = .ok (.invokevirtual 96, 3) := by decide +kernel
theorem dX11_term_31 : decode cX11_term 31 = .ok (.bipush 37, 2) := by decide +kernel
theorem dX11_term_33 : decode cX11_term 33 = .ok (.if_icmp .ne 70, 3) := by decide +kernel
theorem dX11_term_36 : decode cX11_term 36 = .ok (.aload_n 0, 1) := by decide +kernel
theorem dX11_term_37 : decode cX11_term 37 = .ok (.getfield 7, 3) := by decide +kernel
theorem dX11_term_40 : decode cX11_term 40 = .ok (.aload_n 0, 1) := by decide +kernel
theorem dX11_term_41 : decode cX11_term 41 = .ok (.getfield 93, 3) := by decide +kernel
theorem dX11_term_44 : decode cX11_term 44 = .ok (.baload, 1) := by decide +kernel
theorem dX11_term_45 : decode cX11_term 45 = .ok (.bipush 42, 2) := by decide +kernel
theorem dX11_term_47 : decode cX11_term 47 = .ok (.if_icmp .ne 7, 3) := by decide +kernel
theorem dX11_term_50 : decode cX11_term 50 = .ok (.iconst 4, 1) := by decide +kernel
theorem dX11_term_51 : decode cX11_term 51 = .ok (.goto 23, 3) := by decide +kernel
theorem dX11_term_54 : decode cX11_term 54 = .ok (.aload_n 0, 1) := by decide +kernel
theorem dX11_term_55 : decode cX11_term 55 = .ok (.getfield 7, 3) := by decide +kernel
theorem dX11_term_58 : decode cX11_term 58 = .ok (.aload_n 0, 1) := by decide +kernel
theorem dX11_term_59 : decode cX11_term 59 = .ok (.getfield 93, 3) := by decide +kernel
theorem dX11_term_62 : decode cX11_term 62 = .ok (.baload, 1) := by decide +kernel
theorem dX11_term_63 : decode cX11_term 63 = .ok (.bipush 47, 2) := by decide +kernel
theorem dX11_term_65 : decode cX11_term 65 = .ok (.if_icmp .ne 7, 3) := by decide +kernel
theorem dX11_term_68 : decode cX11_term 68 = .ok (.iconst 5, 1) := by decide +kernel
theorem dX11_term_69 : decode cX11_term 69 = .ok (.goto 5, 3) := by decide +kernel
theorem dX11_term_72 : decode cX11_term 72 = .ok (.bipush 14, 2) := by decide +kernel
theorem dX11_term_74 : decode cX11_term 74 = .ok (.istore_n 1, 1) := by decide +kernel
theorem dX11_term_75 : decode cX11_term 75 = .ok (.aload_n 0, 1) := by decide +kernel
theorem dX11_term_76 : decode cX11_term 76 = .ok (.dup, 1) := by decide +kernel
theorem dX11_term_77 : decode cX11_term 77 = .ok (.getfield 93, 3) := by decide +kernel
theorem dX11_term_80 : decode cX11_term 80 = .ok (.iconst 1, 1) := by decide +kernel
theorem dX11_term_81 : decode cX11_term 81 = .ok (.iadd, 1) := by decide +kernel
theorem dX11_term_82 : decode cX11_term 82 = .ok (.putfield 93, 3) := by decide +kernel
theorem dX11_term_85 : decode cX11_term 85 = .ok (.aload_n 0, 1) := by decide +kernel
theorem dX11_term_86 : decode cX11_term 86 = .ok (.invokevirtual 177, 3) := by decide +kernel
theorem dX11_term_89 : decode cX11_term 89 = .ok (.ifCond .ne 5, 3) := by decide +kernel
theorem dX11_term_92 : decode cX11_term 92 = .ok (.iconst 0, 1) := by decide +kernel
theorem dX11_term_93 : decode cX11_term 93 = .ok (.ireturn, 1) := by decide +kernel
theorem dX11_term_94 : decode cX11_term 94 = .ok (.aload_n 0, 1) := by decide +kernel
theorem dX11_term_95 : decode cX11_term 95 = .ok (.iload_n 1, 1) := by decide +kernel
theorem dX11_term_96 : decode cX11_term 96 = .ok (.iconst 0, 1) := by decide +kernel
theorem dX11_term_97 : decode cX11_term 97 = .ok (.invokevirtual 163, 3) := by decide +kernel
theorem dX11_term_100 : decode cX11_term 100 = .ok (.goto (-91), 3) := by decide +kernel
theorem dX11_term_103 : decode cX11_term 103 = .ok (.iconst 1, 1) := by decide +kernel
theorem dX11_term_104 : decode cX11_term 104 = .ok (.ireturn, 1) := by decide +kernel
theorem hd_X11_value : yX11_value.cls ≠ "java/lang/invoke/MethodHandle" ∧ yX11_value.cls ≠ "java/lang/invoke/VarHandle" ∧ (parseMethodDescriptor yX11_value.desc).map (fun d => d.parameters.length) = some 0 := ⟨by decide +kernel, by decide +kernel, by decide +kernel⟩
set_option maxHeartbeats 4000000 in
set_option maxRecDepth 100000 in
theorem v_term (l : Launch) (D : va_G) (K : Nat → ClassId) (ad : Nat → Nat) (z : TS) (o : Ok z) (hp : PIx z) (hs : 0 ≤ SLk z) : cI l yX11_term cX11_term 2 .boolean ({ frames := 4, cells := 0, slots := 0, locals := 88 }) D K ad z [.ref (ad 386)] (fun r u => Ok u ∧ KP1 z u ∧ iv 0 1 r ∧ (Scx z u) ∧ (PIx u) ∧ (SLk z ≤ SLk u) ∧ (¬ r = 0 → Gd 1 0 z u)) := by
  have sc0 : Scx z z := Scx.rf hp.2.1
  have sl_0 : SLk z + 0 ≤ SLk z := sl_0
  have gd_0 : Gd 0 0 z z := Gd.rf
  refine t_enterI (by decide) (Nat.le_of_ble_eq_true rfl) rfl rfl ?_
  intro p e s m args below meth c A R Q H locs ls E hfr hlo RET G hl
  have E : mE p s m meth c cX11_term args 2 RX11 D K A := E
  have hl : lv_has ls 2 [(0, .ref (ad 386))] := hl
  refine lv_aload_n E.1 E.2.1 dX11_term_0 rfl (lv_at hl 0 rfl) ?_
  refine t_vi E G hl (v_value l D K ad z o hp (by have h1 := hs; have h2 := sl_0; omega)) 11 (rfl : ro 386 = 11) (by decide) rfl rfl 0 rfl mw_code_X11_value mw_ini_11 mw_ml_11_177 mw_inst_X11_value mw_sel_X11_value hd_X11_value ⟨Nat.le_trans (by decide) hfr, Nat.le_trans (by decide) hlo⟩ rfl rfl rfl (Nat.le_of_ble_eq_true rfl) dX11_term_1 (fun r2 zz1 H locs hp3 G => ?_)
  obtain ⟨oo4, kk5, b6, h7, h8, h9, h10⟩ := hp3
  have kk11 : KP1 z zz1 := KPf.tr KPf.rf kk5
  have h12 := Scx.tr sc0 h7
  have h13 : SLk z + 0 ≤ SLk zz1 := by have h1 := sl_0; have h2 := h9; omega
  refine lv_if_ne (tgt := 9) E.1 E.2.1 dX11_term_4 (by decide) (fun c14 => ?_) (fun c14 => ?_)
  · skip
    have b15 : iv 1 1 r2 := ne_lo c14 b6 (by decide) (by decide)
    have h16 : Gd 1 0 z zz1 := Gd.tr gd_0 (KPf.rf : KP1 z z) (h10 c14) (by decide) (by decide)
    have LOOP9 : ∀ n : Nat, ∀ (zz17 : TS) (H : Heap) (locs : List Loc) (ls : Array Slot), mG D A s H locs (wd K ad zz17) → Ok zz17 → KP1 z zz17 → Scx z zz17 → PIx zz17 → SLk z + 0 ≤ SLk zz17 → Gd 1 0 z zz17 → 400 < (tI zz17 386 8).toInt + (n : Int) → lv_has ls 2 [(0, .ref (ad 386))] → W p l e R s m args below meth c H locs 0 0 Q (F0 m 9 ls []) := by
      intro n
      induction n with
      | zero =>
        intro zz17 H locs ls G oo18 kk19 h21 h22 h23 h24 m20 hl
        exact absurd m20 (by have := (oo18.i (j := 386) 11 8 rfl).2; have e : ihi 11 8 = 400 := (by decide); omega)
      | succ n ih9 =>
        intro zz17 H locs ls G oo18 kk19 h21 h22 h23 h24 m20 hl
        refine lv_aload_n E.1 E.2.1 dX11_term_9 rfl (lv_at hl 0 rfl) ?_
        have scl25 : Scx zz17 zz17 := Scx.rf h21.1
        refine t_vi E G hl (v_see l D K ad zz17 oo18 h21.1) 11 (rfl : ro 386 = 11) (by decide) rfl rfl 0 rfl mw_code_X11_see mw_ini_11 mw_ml_11_96 mw_inst_X11_see mw_sel_X11_see hd_X11_see ⟨Nat.le_trans (by decide) hfr, Nat.le_trans (by decide) hlo⟩ rfl rfl rfl (Nat.le_of_ble_eq_true rfl) dX11_term_10 (fun r27 zz26 H locs hp28 G => ?_)
        obtain ⟨oo29, kk30, b31, h32, h33, h34, h35⟩ := hp28
        have kk36 : KP1 z zz26 := KPf.tr kk19 (KN8.p1 kk30)
        have h37 := Scx.tr h21 h32
        have h38 := Scx.tr scl25 h32
        have sm39 := Same.of kk30 rfl rfl rfl
        have h40 : PIx zz26 := pi_q h22 sm39 h37.1 (kk30.1 386 12 rfl) (kk30.1 386 11 rfl)
        have h41 : SLk z + 0 ≤ SLk zz26 := sl_q 0 h23 sm39 (by have h := h32.2; omega) (by decide)
        have h42 := Gd.sm h24 sm39
        refine lv_bipush (v := 42) E.1 E.2.1 dX11_term_13 (by decide) ?_
        refine lv_icmp_eq (tgt := 36) E.1 E.2.1 dX11_term_15 (by decide) (fun c43 => ?_) (fun c43 => ?_)
        · skip
          have b44 : iv 42 42 r27 := iv_eq c43 (iv_lit (lo := 42) (hi := 42) 42 (by decide) (by decide))
          have h45 : LSx zz26 := h35 (Int.le_trans (by decide) b44.1)
          refine lv_aload_n E.1 E.2.1 dX11_term_36 rfl (lv_at hl 0 rfl) ?_
          refine t_get E G 11 0 (rfl : ro 386 = 11) (C := RX11) (T := TX11) (N := 37) rfl (by decide) (by decide) (by decide) mw_fl_11_7 (v := .ref (ad 387)) (fvl_o (n := 1) rfl) dX11_term_37 ?_
          refine lv_aload_n E.1 E.2.1 dX11_term_40 rfl (lv_at hl 0 rfl) ?_
          refine t_get E G 11 8 (rfl : ro 386 = 11) (C := RX11) (T := TX11) (N := 37) rfl (by decide) (by decide) (by decide) mw_fl_11_93 (fvl_i rfl) dX11_term_41 ?_
          refine lv_topi (fun v46 e47 => ?_)
          have b48 : iv 0 400 v46 := by rw [e47]; exact oo29.i 11 8 (rfl : ro 386 = 11)
          have b49 : iv 0 399 v46 := LSx.iv oo29 h45 e47
          refine t_bald E G 45 (rfl : ro 387 = 45) (by decide) (by decide) rfl (n := 400) rfl (iv_vp b49 (by decide) (by decide)) dX11_term_44 ?_
          refine lv_topi (fun v50 e51 => ?_)
          have b52 : iv (-128) 127 v50 := by rw [e51]; exact iv_mono (rd_u oo29 45 (rfl : ro 387 = 45) (by decide) _) (by decide) (by decide)
          refine lv_bipush (v := 42) E.1 E.2.1 dX11_term_45 (by decide) ?_
          refine lv_icmp_ne (tgt := 54) E.1 E.2.1 dX11_term_47 (by decide) (fun c53 => ?_) (fun c53 => ?_)
          · skip
            refine lv_aload_n E.1 E.2.1 dX11_term_54 rfl (lv_at hl 0 rfl) ?_
            refine t_get E G 11 0 (rfl : ro 386 = 11) (C := RX11) (T := TX11) (N := 37) rfl (by decide) (by decide) (by decide) mw_fl_11_7 (v := .ref (ad 387)) (fvl_o (n := 1) rfl) dX11_term_55 ?_
            refine lv_aload_n E.1 E.2.1 dX11_term_58 rfl (lv_at hl 0 rfl) ?_
            refine t_get E G 11 8 (rfl : ro 386 = 11) (C := RX11) (T := TX11) (N := 37) rfl (by decide) (by decide) (by decide) mw_fl_11_93 (fvl_i rfl) dX11_term_59 ?_
            refine m_ci v46 e47.symm ?_
            refine t_bald E G 45 (rfl : ro 387 = 45) (by decide) (by decide) rfl (n := 400) rfl (iv_vp b49 (by decide) (by decide)) dX11_term_62 ?_
            refine m_ci v50 e51.symm ?_
            refine lv_bipush (v := 47) E.1 E.2.1 dX11_term_63 (by decide) ?_
            refine lv_icmp_ne (tgt := 72) E.1 E.2.1 dX11_term_65 (by decide) (fun c54 => ?_) (fun c54 => ?_)
            · skip
              refine lv_bipush (v := 14) E.1 E.2.1 dX11_term_72 (by decide) ?_
              refine lv_istore_n (lv' := [(1, .int 14), (0, .ref (ad 386))]) E.1 E.2.1 dX11_term_74 rfl hl (by decide) rfl (fun ls hl => ?_)
              refine lv_aload_n E.1 E.2.1 dX11_term_75 rfl (lv_at hl 1 rfl) ?_
              refine lv_dup E.1 E.2.1 dX11_term_76 rfl ?_
              refine t_get E G 11 8 (rfl : ro 386 = 11) (C := RX11) (T := TX11) (N := 37) rfl (by decide) (by decide) (by decide) mw_fl_11_93 (fvl_i rfl) dX11_term_77 ?_
              refine m_ci v46 e47.symm ?_
              refine lv_iconst (v := 1) E.1 E.2.1 dX11_term_80 (by decide) ?_
              refine lv_iadd E.1 E.2.1 dX11_term_81 ?_
              refine lv_topi (fun v55 e56 => ?_)
              have b57 : iv 1 400 v55 := by rw [e56]; exact iv_add b49 (iv_lit (lo := 1) (hi := 1) 1 (by decide) (by decide)) (by decide) (by decide) (by decide) (by decide)
              have l58 : v55.toInt = 1 + 1 * v46.toInt := (show v55.toInt = v46.toInt + 1 by rw [e56]; exact ti_addc 1 (by decide) b49 (by decide) (by decide)).trans (by omega)
              refine t_puti E G 11 8 (rfl : ro 386 = 11) (C := RX11) (T := TX11) (N := 37) rfl (by decide) (by decide) (by decide) rfl rfl mw_fl_11_93 rfl dX11_term_82 (fun H locs G => ?_)
              obtain ⟨zz65, G, oo66, kk67, h68, h59, h60, h61, h62, h63, h64⟩ : ∃ u : TS, mG D A s H locs (wd K ad u) ∧ Ok u ∧ KP1 z u ∧ tI u 386 8 = v55 ∧ (Scx z u) ∧ (PIx u) ∧ (SLk z + 1 ≤ SLk u) ∧ (Gd 1 0 z u) ∧ (Scx zz17 u) ∧ ((tI zz17 386 8).toInt + 1 ≤ (tI u 386 8).toInt) := ⟨_, G, ok_i oo29 11 (rfl : ro 386 = 11) (iv_mono b57 (by decide) (by decide)) (by decide), KPf.tr kk36 (KPf_i 11 (rfl : ro 386 = 11) (by decide)), sI_self, (Scx.tr h37 (up_ls e47.symm.symm h45 (l58.trans (by omega))).1), (pi_q h40 (Same.i (by decide)) (up_ls e47.symm.symm h45 (l58.trans (by omega))).1.1 rfl rfl), (sl_q 1 h41 (Same.i (by decide)) (up_ls e47.symm.symm h45 (l58.trans (by omega))).2 (by decide)), (Gd.sm h42 (Same.i (by decide))), (Scx.tr h38 (up_ls e47.symm.symm h45 (l58.trans (by omega))).1), (by have h1 := (up_ls e47.symm.symm h45 (l58.trans (by omega))).2; have h2 := h38.2; omega)⟩
              refine lv_aload_n E.1 E.2.1 dX11_term_85 rfl (lv_at hl 1 rfl) ?_
              refine t_vi E G hl (v_value l D K ad zz65 oo66 h60 (by have h1 := hs; have h2 := h61; omega)) 11 (rfl : ro 386 = 11) (by decide) rfl rfl 0 rfl mw_code_X11_value mw_ini_11 mw_ml_11_177 mw_inst_X11_value mw_sel_X11_value hd_X11_value ⟨Nat.le_trans (by decide) hfr, Nat.le_trans (by decide) hlo⟩ rfl rfl rfl (Nat.le_of_ble_eq_true rfl) dX11_term_86 (fun r70 zz69 H locs hp71 G => ?_)
              obtain ⟨oo72, kk73, b74, h75, h76, h77, h78⟩ := hp71
              have kk79 : KP1 z zz69 := KPf.tr kk67 kk73
              have h80 := Scx.tr h59 h75
              have h81 := Scx.tr h63 h75
              have h82 : (tI zz17 386 8).toInt + 1 ≤ (tI zz69 386 8).toInt := by have h1 := h64; have h2 := h75.2; omega
              have h83 : SLk z + 1 ≤ SLk zz69 := by have h1 := h61; have h2 := h77; omega
              refine lv_if_ne (tgt := 94) E.1 E.2.1 dX11_term_89 (by decide) (fun c84 => ?_) (fun c84 => ?_)
              · skip
                have b85 : iv 1 1 r70 := ne_lo c84 b74 (by decide) (by decide)
                have h86 : Gd 2 0 z zz69 := Gd.tr h62 kk67 (h78 c84) (by decide) (by decide)
                refine lv_aload_n E.1 E.2.1 dX11_term_94 rfl (lv_at hl 1 rfl) ?_
                refine lv_iload_n E.1 E.2.1 dX11_term_95 rfl (lv_at hl 0 rfl) ?_
                refine lv_iconst (v := 0) E.1 E.2.1 dX11_term_96 (by decide) ?_
                refine t_vv E G hl (v_puts_op l D K ad zz69 oo72 (14 : Int32) (iv_mono (iv_lit (lo := 14) (hi := 14) 14 (by decide) (by decide)) (by decide) (by decide)) h76 (le399 oo72 (by have h1 := hs; have h2 := h83; omega)) (by decide)) 11 (rfl : ro 386 = 11) (by decide) rfl rfl 2 rfl mw_code_X11_puts mw_ini_11 mw_ml_11_163 mw_inst_X11_puts mw_sel_X11_puts hd_X11_puts ⟨Nat.le_trans (by decide) hfr, Nat.le_trans (by decide) hlo⟩ rfl rfl rfl (Nat.le_of_ble_eq_true rfl) dX11_term_97 (fun zz87 H locs hp89 G => ?_)
                obtain ⟨oo90, kk91, h92, h93, h94⟩ := hp89
                have kk95 : KP1 z zz87 := KPf.tr kk79 (KPU.p1 kk91)
                have h96 := Scx.tr h80 (scx_p h80.1 kk91 rfl rfl)
                have h97 := Scx.tr h81 (scx_p h81.1 kk91 rfl rfl)
                have h98 : (tI zz17 386 8).toInt + 1 ≤ (tI zz87 386 8).toInt := by have h1 := h82; have h2 := (scx_p h81.1 kk91 rfl rfl).2; omega
                have h99 : SLk z + 0 ≤ SLk zz87 := by have h1 := h83; have h2 := h93; omega
                have h100 : Gd 1 0 z zz87 := Gd.tr h86 kk79 h94 (by decide) (by decide)
                refine lv_goto (tgt := 9) E.1 E.2.1 dX11_term_100 (by decide) ?_
                exact ih9 zz87 H locs ls G oo90 kk95 h96 h92 (by have h := h99; omega) (Gd.wk h100 (by decide) (by decide)) (by have := h98; have := m20; omega) (lv_sub hl [1] rfl)
              · skip
                have b101 : iv 0 0 r70 := iv_eq c84 (iv_lit (lo := 0) (hi := 0) 0 (by decide) (by decide))
                refine lv_iconst (v := 0) E.1 E.2.1 dX11_term_92 (by decide) ?_
                exact RET G ⟨oo72, kk79, (iv_mono (iv_lit (lo := 0) (hi := 0) 0 (by decide) (by decide)) (by decide) (by decide)), h80, h76, (by have h := h83; omega), (fun h => absurd rfl h)⟩ (by decide) dX11_term_93
            · skip
              have b102 : iv 47 47 v50 := iv_eq c54 (iv_lit (lo := 47) (hi := 47) 47 (by decide) (by decide))
              refine lv_iconst (v := 5) E.1 E.2.1 dX11_term_68 (by decide) ?_
              refine lv_goto (tgt := 74) E.1 E.2.1 dX11_term_69 (by decide) ?_
              refine lv_istore_n (lv' := [(1, .int 5), (0, .ref (ad 386))]) E.1 E.2.1 dX11_term_74 rfl hl (by decide) rfl (fun ls hl => ?_)
              refine lv_aload_n E.1 E.2.1 dX11_term_75 rfl (lv_at hl 1 rfl) ?_
              refine lv_dup E.1 E.2.1 dX11_term_76 rfl ?_
              refine t_get E G 11 8 (rfl : ro 386 = 11) (C := RX11) (T := TX11) (N := 37) rfl (by decide) (by decide) (by decide) mw_fl_11_93 (fvl_i rfl) dX11_term_77 ?_
              refine m_ci v46 e47.symm ?_
              refine lv_iconst (v := 1) E.1 E.2.1 dX11_term_80 (by decide) ?_
              refine lv_iadd E.1 E.2.1 dX11_term_81 ?_
              refine lv_topi (fun v103 e104 => ?_)
              have b105 : iv 1 400 v103 := by rw [e104]; exact iv_add b49 (iv_lit (lo := 1) (hi := 1) 1 (by decide) (by decide)) (by decide) (by decide) (by decide) (by decide)
              have l106 : v103.toInt = 1 + 1 * v46.toInt := (show v103.toInt = v46.toInt + 1 by rw [e104]; exact ti_addc 1 (by decide) b49 (by decide) (by decide)).trans (by omega)
              refine t_puti E G 11 8 (rfl : ro 386 = 11) (C := RX11) (T := TX11) (N := 37) rfl (by decide) (by decide) (by decide) rfl rfl mw_fl_11_93 rfl dX11_term_82 (fun H locs G => ?_)
              obtain ⟨zz113, G, oo114, kk115, h116, h107, h108, h109, h110, h111, h112⟩ : ∃ u : TS, mG D A s H locs (wd K ad u) ∧ Ok u ∧ KP1 z u ∧ tI u 386 8 = v103 ∧ (Scx z u) ∧ (PIx u) ∧ (SLk z + 1 ≤ SLk u) ∧ (Gd 1 0 z u) ∧ (Scx zz17 u) ∧ ((tI zz17 386 8).toInt + 1 ≤ (tI u 386 8).toInt) := ⟨_, G, ok_i oo29 11 (rfl : ro 386 = 11) (iv_mono b105 (by decide) (by decide)) (by decide), KPf.tr kk36 (KPf_i 11 (rfl : ro 386 = 11) (by decide)), sI_self, (Scx.tr h37 (up_ls e47.symm.symm h45 (l106.trans (by omega))).1), (pi_q h40 (Same.i (by decide)) (up_ls e47.symm.symm h45 (l106.trans (by omega))).1.1 rfl rfl), (sl_q 1 h41 (Same.i (by decide)) (up_ls e47.symm.symm h45 (l106.trans (by omega))).2 (by decide)), (Gd.sm h42 (Same.i (by decide))), (Scx.tr h38 (up_ls e47.symm.symm h45 (l106.trans (by omega))).1), (by have h1 := (up_ls e47.symm.symm h45 (l106.trans (by omega))).2; have h2 := h38.2; omega)⟩
              refine lv_aload_n E.1 E.2.1 dX11_term_85 rfl (lv_at hl 1 rfl) ?_
              refine t_vi E G hl (v_value l D K ad zz113 oo114 h108 (by have h1 := hs; have h2 := h109; omega)) 11 (rfl : ro 386 = 11) (by decide) rfl rfl 0 rfl mw_code_X11_value mw_ini_11 mw_ml_11_177 mw_inst_X11_value mw_sel_X11_value hd_X11_value ⟨Nat.le_trans (by decide) hfr, Nat.le_trans (by decide) hlo⟩ rfl rfl rfl (Nat.le_of_ble_eq_true rfl) dX11_term_86 (fun r118 zz117 H locs hp119 G => ?_)
              obtain ⟨oo120, kk121, b122, h123, h124, h125, h126⟩ := hp119
              have kk127 : KP1 z zz117 := KPf.tr kk115 kk121
              have h128 := Scx.tr h107 h123
              have h129 := Scx.tr h111 h123
              have h130 : (tI zz17 386 8).toInt + 1 ≤ (tI zz117 386 8).toInt := by have h1 := h112; have h2 := h123.2; omega
              have h131 : SLk z + 1 ≤ SLk zz117 := by have h1 := h109; have h2 := h125; omega
              refine lv_if_ne (tgt := 94) E.1 E.2.1 dX11_term_89 (by decide) (fun c132 => ?_) (fun c132 => ?_)
              · skip
                have b133 : iv 1 1 r118 := ne_lo c132 b122 (by decide) (by decide)
                have h134 : Gd 2 0 z zz117 := Gd.tr h110 kk115 (h126 c132) (by decide) (by decide)
                refine lv_aload_n E.1 E.2.1 dX11_term_94 rfl (lv_at hl 1 rfl) ?_
                refine lv_iload_n E.1 E.2.1 dX11_term_95 rfl (lv_at hl 0 rfl) ?_
                refine lv_iconst (v := 0) E.1 E.2.1 dX11_term_96 (by decide) ?_
                refine t_vv E G hl (v_puts_op l D K ad zz117 oo120 (5 : Int32) (iv_mono (iv_lit (lo := 5) (hi := 5) 5 (by decide) (by decide)) (by decide) (by decide)) h124 (le399 oo120 (by have h1 := hs; have h2 := h131; omega)) (by decide)) 11 (rfl : ro 386 = 11) (by decide) rfl rfl 2 rfl mw_code_X11_puts mw_ini_11 mw_ml_11_163 mw_inst_X11_puts mw_sel_X11_puts hd_X11_puts ⟨Nat.le_trans (by decide) hfr, Nat.le_trans (by decide) hlo⟩ rfl rfl rfl (Nat.le_of_ble_eq_true rfl) dX11_term_97 (fun zz135 H locs hp137 G => ?_)
                obtain ⟨oo138, kk139, h140, h141, h142⟩ := hp137
                have kk143 : KP1 z zz135 := KPf.tr kk127 (KPU.p1 kk139)
                have h144 := Scx.tr h128 (scx_p h128.1 kk139 rfl rfl)
                have h145 := Scx.tr h129 (scx_p h129.1 kk139 rfl rfl)
                have h146 : (tI zz17 386 8).toInt + 1 ≤ (tI zz135 386 8).toInt := by have h1 := h130; have h2 := (scx_p h129.1 kk139 rfl rfl).2; omega
                have h147 : SLk z + 0 ≤ SLk zz135 := by have h1 := h131; have h2 := h141; omega
                have h148 : Gd 1 0 z zz135 := Gd.tr h134 kk127 h142 (by decide) (by decide)
                refine lv_goto (tgt := 9) E.1 E.2.1 dX11_term_100 (by decide) ?_
                exact ih9 zz135 H locs ls G oo138 kk143 h144 h140 (by have h := h147; omega) (Gd.wk h148 (by decide) (by decide)) (by have := h146; have := m20; omega) (lv_sub hl [1] rfl)
              · skip
                have b149 : iv 0 0 r118 := iv_eq c132 (iv_lit (lo := 0) (hi := 0) 0 (by decide) (by decide))
                refine lv_iconst (v := 0) E.1 E.2.1 dX11_term_92 (by decide) ?_
                exact RET G ⟨oo120, kk127, (iv_mono (iv_lit (lo := 0) (hi := 0) 0 (by decide) (by decide)) (by decide) (by decide)), h128, h124, (by have h := h131; omega), (fun h => absurd rfl h)⟩ (by decide) dX11_term_93
          · skip
            have b150 : iv 42 42 v50 := iv_eq c53 (iv_lit (lo := 42) (hi := 42) 42 (by decide) (by decide))
            refine lv_iconst (v := 4) E.1 E.2.1 dX11_term_50 (by decide) ?_
            refine lv_goto (tgt := 74) E.1 E.2.1 dX11_term_51 (by decide) ?_
            refine lv_istore_n (lv' := [(1, .int 4), (0, .ref (ad 386))]) E.1 E.2.1 dX11_term_74 rfl hl (by decide) rfl (fun ls hl => ?_)
            refine lv_aload_n E.1 E.2.1 dX11_term_75 rfl (lv_at hl 1 rfl) ?_
            refine lv_dup E.1 E.2.1 dX11_term_76 rfl ?_
            refine t_get E G 11 8 (rfl : ro 386 = 11) (C := RX11) (T := TX11) (N := 37) rfl (by decide) (by decide) (by decide) mw_fl_11_93 (fvl_i rfl) dX11_term_77 ?_
            refine m_ci v46 e47.symm ?_
            refine lv_iconst (v := 1) E.1 E.2.1 dX11_term_80 (by decide) ?_
            refine lv_iadd E.1 E.2.1 dX11_term_81 ?_
            refine lv_topi (fun v151 e152 => ?_)
            have b153 : iv 1 400 v151 := by rw [e152]; exact iv_add b49 (iv_lit (lo := 1) (hi := 1) 1 (by decide) (by decide)) (by decide) (by decide) (by decide) (by decide)
            have l154 : v151.toInt = 1 + 1 * v46.toInt := (show v151.toInt = v46.toInt + 1 by rw [e152]; exact ti_addc 1 (by decide) b49 (by decide) (by decide)).trans (by omega)
            refine t_puti E G 11 8 (rfl : ro 386 = 11) (C := RX11) (T := TX11) (N := 37) rfl (by decide) (by decide) (by decide) rfl rfl mw_fl_11_93 rfl dX11_term_82 (fun H locs G => ?_)
            obtain ⟨zz161, G, oo162, kk163, h164, h155, h156, h157, h158, h159, h160⟩ : ∃ u : TS, mG D A s H locs (wd K ad u) ∧ Ok u ∧ KP1 z u ∧ tI u 386 8 = v151 ∧ (Scx z u) ∧ (PIx u) ∧ (SLk z + 1 ≤ SLk u) ∧ (Gd 1 0 z u) ∧ (Scx zz17 u) ∧ ((tI zz17 386 8).toInt + 1 ≤ (tI u 386 8).toInt) := ⟨_, G, ok_i oo29 11 (rfl : ro 386 = 11) (iv_mono b153 (by decide) (by decide)) (by decide), KPf.tr kk36 (KPf_i 11 (rfl : ro 386 = 11) (by decide)), sI_self, (Scx.tr h37 (up_ls e47.symm.symm h45 (l154.trans (by omega))).1), (pi_q h40 (Same.i (by decide)) (up_ls e47.symm.symm h45 (l154.trans (by omega))).1.1 rfl rfl), (sl_q 1 h41 (Same.i (by decide)) (up_ls e47.symm.symm h45 (l154.trans (by omega))).2 (by decide)), (Gd.sm h42 (Same.i (by decide))), (Scx.tr h38 (up_ls e47.symm.symm h45 (l154.trans (by omega))).1), (by have h1 := (up_ls e47.symm.symm h45 (l154.trans (by omega))).2; have h2 := h38.2; omega)⟩
            refine lv_aload_n E.1 E.2.1 dX11_term_85 rfl (lv_at hl 1 rfl) ?_
            refine t_vi E G hl (v_value l D K ad zz161 oo162 h156 (by have h1 := hs; have h2 := h157; omega)) 11 (rfl : ro 386 = 11) (by decide) rfl rfl 0 rfl mw_code_X11_value mw_ini_11 mw_ml_11_177 mw_inst_X11_value mw_sel_X11_value hd_X11_value ⟨Nat.le_trans (by decide) hfr, Nat.le_trans (by decide) hlo⟩ rfl rfl rfl (Nat.le_of_ble_eq_true rfl) dX11_term_86 (fun r166 zz165 H locs hp167 G => ?_)
            obtain ⟨oo168, kk169, b170, h171, h172, h173, h174⟩ := hp167
            have kk175 : KP1 z zz165 := KPf.tr kk163 kk169
            have h176 := Scx.tr h155 h171
            have h177 := Scx.tr h159 h171
            have h178 : (tI zz17 386 8).toInt + 1 ≤ (tI zz165 386 8).toInt := by have h1 := h160; have h2 := h171.2; omega
            have h179 : SLk z + 1 ≤ SLk zz165 := by have h1 := h157; have h2 := h173; omega
            refine lv_if_ne (tgt := 94) E.1 E.2.1 dX11_term_89 (by decide) (fun c180 => ?_) (fun c180 => ?_)
            · skip
              have b181 : iv 1 1 r166 := ne_lo c180 b170 (by decide) (by decide)
              have h182 : Gd 2 0 z zz165 := Gd.tr h158 kk163 (h174 c180) (by decide) (by decide)
              refine lv_aload_n E.1 E.2.1 dX11_term_94 rfl (lv_at hl 1 rfl) ?_
              refine lv_iload_n E.1 E.2.1 dX11_term_95 rfl (lv_at hl 0 rfl) ?_
              refine lv_iconst (v := 0) E.1 E.2.1 dX11_term_96 (by decide) ?_
              refine t_vv E G hl (v_puts_op l D K ad zz165 oo168 (4 : Int32) (iv_mono (iv_lit (lo := 4) (hi := 4) 4 (by decide) (by decide)) (by decide) (by decide)) h172 (le399 oo168 (by have h1 := hs; have h2 := h179; omega)) (by decide)) 11 (rfl : ro 386 = 11) (by decide) rfl rfl 2 rfl mw_code_X11_puts mw_ini_11 mw_ml_11_163 mw_inst_X11_puts mw_sel_X11_puts hd_X11_puts ⟨Nat.le_trans (by decide) hfr, Nat.le_trans (by decide) hlo⟩ rfl rfl rfl (Nat.le_of_ble_eq_true rfl) dX11_term_97 (fun zz183 H locs hp185 G => ?_)
              obtain ⟨oo186, kk187, h188, h189, h190⟩ := hp185
              have kk191 : KP1 z zz183 := KPf.tr kk175 (KPU.p1 kk187)
              have h192 := Scx.tr h176 (scx_p h176.1 kk187 rfl rfl)
              have h193 := Scx.tr h177 (scx_p h177.1 kk187 rfl rfl)
              have h194 : (tI zz17 386 8).toInt + 1 ≤ (tI zz183 386 8).toInt := by have h1 := h178; have h2 := (scx_p h177.1 kk187 rfl rfl).2; omega
              have h195 : SLk z + 0 ≤ SLk zz183 := by have h1 := h179; have h2 := h189; omega
              have h196 : Gd 1 0 z zz183 := Gd.tr h182 kk175 h190 (by decide) (by decide)
              refine lv_goto (tgt := 9) E.1 E.2.1 dX11_term_100 (by decide) ?_
              exact ih9 zz183 H locs ls G oo186 kk191 h192 h188 (by have h := h195; omega) (Gd.wk h196 (by decide) (by decide)) (by have := h194; have := m20; omega) (lv_sub hl [1] rfl)
            · skip
              have b197 : iv 0 0 r166 := iv_eq c180 (iv_lit (lo := 0) (hi := 0) 0 (by decide) (by decide))
              refine lv_iconst (v := 0) E.1 E.2.1 dX11_term_92 (by decide) ?_
              exact RET G ⟨oo168, kk175, (iv_mono (iv_lit (lo := 0) (hi := 0) 0 (by decide) (by decide)) (by decide) (by decide)), h176, h172, (by have h := h179; omega), (fun h => absurd rfl h)⟩ (by decide) dX11_term_93
        · skip
          refine lv_aload_n E.1 E.2.1 dX11_term_18 rfl (lv_at hl 0 rfl) ?_
          refine t_vi E G hl (v_see l D K ad zz26 oo29 h37.1) 11 (rfl : ro 386 = 11) (by decide) rfl rfl 0 rfl mw_code_X11_see mw_ini_11 mw_ml_11_96 mw_inst_X11_see mw_sel_X11_see hd_X11_see ⟨Nat.le_trans (by decide) hfr, Nat.le_trans (by decide) hlo⟩ rfl rfl rfl (Nat.le_of_ble_eq_true rfl) dX11_term_19 (fun r199 zz198 H locs hp200 G => ?_)
          obtain ⟨oo201, kk202, b203, h204, h205, h206, h207⟩ := hp200
          have kk208 : KP1 z zz198 := KPf.tr kk36 (KN8.p1 kk202)
          have h209 := Scx.tr h37 h204
          have h210 := Scx.tr h38 h204
          have sm211 := Same.of kk202 rfl rfl rfl
          have h212 : PIx zz198 := pi_q h40 sm211 h209.1 (kk202.1 386 12 rfl) (kk202.1 386 11 rfl)
          have h213 : SLk z + 0 ≤ SLk zz198 := sl_q 0 h41 sm211 (by have h := h204.2; omega) (by decide)
          have h214 := Gd.sm h42 sm211
          refine lv_bipush (v := 47) E.1 E.2.1 dX11_term_22 (by decide) ?_
          refine lv_icmp_eq (tgt := 36) E.1 E.2.1 dX11_term_24 (by decide) (fun c215 => ?_) (fun c215 => ?_)
          · skip
            have b216 : iv 47 47 r199 := iv_eq c215 (iv_lit (lo := 47) (hi := 47) 47 (by decide) (by decide))
            have h217 : LSx zz198 := h207 (Int.le_trans (by decide) b216.1)
            refine lv_aload_n E.1 E.2.1 dX11_term_36 rfl (lv_at hl 0 rfl) ?_
            refine t_get E G 11 0 (rfl : ro 386 = 11) (C := RX11) (T := TX11) (N := 37) rfl (by decide) (by decide) (by decide) mw_fl_11_7 (v := .ref (ad 387)) (fvl_o (n := 1) rfl) dX11_term_37 ?_
            refine lv_aload_n E.1 E.2.1 dX11_term_40 rfl (lv_at hl 0 rfl) ?_
            refine t_get E G 11 8 (rfl : ro 386 = 11) (C := RX11) (T := TX11) (N := 37) rfl (by decide) (by decide) (by decide) mw_fl_11_93 (fvl_i rfl) dX11_term_41 ?_
            refine lv_topi (fun v218 e219 => ?_)
            have b220 : iv 0 400 v218 := by rw [e219]; exact oo201.i 11 8 (rfl : ro 386 = 11)
            have b221 : iv 0 399 v218 := LSx.iv oo201 h217 e219
            refine t_bald E G 45 (rfl : ro 387 = 45) (by decide) (by decide) rfl (n := 400) rfl (iv_vp b221 (by decide) (by decide)) dX11_term_44 ?_
            refine lv_topi (fun v222 e223 => ?_)
            have b224 : iv (-128) 127 v222 := by rw [e223]; exact iv_mono (rd_u oo201 45 (rfl : ro 387 = 45) (by decide) _) (by decide) (by decide)
            refine lv_bipush (v := 42) E.1 E.2.1 dX11_term_45 (by decide) ?_
            refine lv_icmp_ne (tgt := 54) E.1 E.2.1 dX11_term_47 (by decide) (fun c225 => ?_) (fun c225 => ?_)
            · skip
              refine lv_aload_n E.1 E.2.1 dX11_term_54 rfl (lv_at hl 0 rfl) ?_
              refine t_get E G 11 0 (rfl : ro 386 = 11) (C := RX11) (T := TX11) (N := 37) rfl (by decide) (by decide) (by decide) mw_fl_11_7 (v := .ref (ad 387)) (fvl_o (n := 1) rfl) dX11_term_55 ?_
              refine lv_aload_n E.1 E.2.1 dX11_term_58 rfl (lv_at hl 0 rfl) ?_
              refine t_get E G 11 8 (rfl : ro 386 = 11) (C := RX11) (T := TX11) (N := 37) rfl (by decide) (by decide) (by decide) mw_fl_11_93 (fvl_i rfl) dX11_term_59 ?_
              refine m_ci v218 e219.symm ?_
              refine t_bald E G 45 (rfl : ro 387 = 45) (by decide) (by decide) rfl (n := 400) rfl (iv_vp b221 (by decide) (by decide)) dX11_term_62 ?_
              refine m_ci v222 e223.symm ?_
              refine lv_bipush (v := 47) E.1 E.2.1 dX11_term_63 (by decide) ?_
              refine lv_icmp_ne (tgt := 72) E.1 E.2.1 dX11_term_65 (by decide) (fun c226 => ?_) (fun c226 => ?_)
              · skip
                refine lv_bipush (v := 14) E.1 E.2.1 dX11_term_72 (by decide) ?_
                refine lv_istore_n (lv' := [(1, .int 14), (0, .ref (ad 386))]) E.1 E.2.1 dX11_term_74 rfl hl (by decide) rfl (fun ls hl => ?_)
                refine lv_aload_n E.1 E.2.1 dX11_term_75 rfl (lv_at hl 1 rfl) ?_
                refine lv_dup E.1 E.2.1 dX11_term_76 rfl ?_
                refine t_get E G 11 8 (rfl : ro 386 = 11) (C := RX11) (T := TX11) (N := 37) rfl (by decide) (by decide) (by decide) mw_fl_11_93 (fvl_i rfl) dX11_term_77 ?_
                refine m_ci v218 e219.symm ?_
                refine lv_iconst (v := 1) E.1 E.2.1 dX11_term_80 (by decide) ?_
                refine lv_iadd E.1 E.2.1 dX11_term_81 ?_
                refine lv_topi (fun v227 e228 => ?_)
                have b229 : iv 1 400 v227 := by rw [e228]; exact iv_add b221 (iv_lit (lo := 1) (hi := 1) 1 (by decide) (by decide)) (by decide) (by decide) (by decide) (by decide)
                have l230 : v227.toInt = 1 + 1 * v218.toInt := (show v227.toInt = v218.toInt + 1 by rw [e228]; exact ti_addc 1 (by decide) b221 (by decide) (by decide)).trans (by omega)
                refine t_puti E G 11 8 (rfl : ro 386 = 11) (C := RX11) (T := TX11) (N := 37) rfl (by decide) (by decide) (by decide) rfl rfl mw_fl_11_93 rfl dX11_term_82 (fun H locs G => ?_)
                obtain ⟨zz237, G, oo238, kk239, h240, h231, h232, h233, h234, h235, h236⟩ : ∃ u : TS, mG D A s H locs (wd K ad u) ∧ Ok u ∧ KP1 z u ∧ tI u 386 8 = v227 ∧ (Scx z u) ∧ (PIx u) ∧ (SLk z + 1 ≤ SLk u) ∧ (Gd 1 0 z u) ∧ (Scx zz17 u) ∧ ((tI zz17 386 8).toInt + 1 ≤ (tI u 386 8).toInt) := ⟨_, G, ok_i oo201 11 (rfl : ro 386 = 11) (iv_mono b229 (by decide) (by decide)) (by decide), KPf.tr kk208 (KPf_i 11 (rfl : ro 386 = 11) (by decide)), sI_self, (Scx.tr h209 (up_ls e219.symm.symm h217 (l230.trans (by omega))).1), (pi_q h212 (Same.i (by decide)) (up_ls e219.symm.symm h217 (l230.trans (by omega))).1.1 rfl rfl), (sl_q 1 h213 (Same.i (by decide)) (up_ls e219.symm.symm h217 (l230.trans (by omega))).2 (by decide)), (Gd.sm h214 (Same.i (by decide))), (Scx.tr h210 (up_ls e219.symm.symm h217 (l230.trans (by omega))).1), (by have h1 := (up_ls e219.symm.symm h217 (l230.trans (by omega))).2; have h2 := h210.2; omega)⟩
                refine lv_aload_n E.1 E.2.1 dX11_term_85 rfl (lv_at hl 1 rfl) ?_
                refine t_vi E G hl (v_value l D K ad zz237 oo238 h232 (by have h1 := hs; have h2 := h233; omega)) 11 (rfl : ro 386 = 11) (by decide) rfl rfl 0 rfl mw_code_X11_value mw_ini_11 mw_ml_11_177 mw_inst_X11_value mw_sel_X11_value hd_X11_value ⟨Nat.le_trans (by decide) hfr, Nat.le_trans (by decide) hlo⟩ rfl rfl rfl (Nat.le_of_ble_eq_true rfl) dX11_term_86 (fun r242 zz241 H locs hp243 G => ?_)
                obtain ⟨oo244, kk245, b246, h247, h248, h249, h250⟩ := hp243
                have kk251 : KP1 z zz241 := KPf.tr kk239 kk245
                have h252 := Scx.tr h231 h247
                have h253 := Scx.tr h235 h247
                have h254 : (tI zz17 386 8).toInt + 1 ≤ (tI zz241 386 8).toInt := by have h1 := h236; have h2 := h247.2; omega
                have h255 : SLk z + 1 ≤ SLk zz241 := by have h1 := h233; have h2 := h249; omega
                refine lv_if_ne (tgt := 94) E.1 E.2.1 dX11_term_89 (by decide) (fun c256 => ?_) (fun c256 => ?_)
                · skip
                  have b257 : iv 1 1 r242 := ne_lo c256 b246 (by decide) (by decide)
                  have h258 : Gd 2 0 z zz241 := Gd.tr h234 kk239 (h250 c256) (by decide) (by decide)
                  refine lv_aload_n E.1 E.2.1 dX11_term_94 rfl (lv_at hl 1 rfl) ?_
                  refine lv_iload_n E.1 E.2.1 dX11_term_95 rfl (lv_at hl 0 rfl) ?_
                  refine lv_iconst (v := 0) E.1 E.2.1 dX11_term_96 (by decide) ?_
                  refine t_vv E G hl (v_puts_op l D K ad zz241 oo244 (14 : Int32) (iv_mono (iv_lit (lo := 14) (hi := 14) 14 (by decide) (by decide)) (by decide) (by decide)) h248 (le399 oo244 (by have h1 := hs; have h2 := h255; omega)) (by decide)) 11 (rfl : ro 386 = 11) (by decide) rfl rfl 2 rfl mw_code_X11_puts mw_ini_11 mw_ml_11_163 mw_inst_X11_puts mw_sel_X11_puts hd_X11_puts ⟨Nat.le_trans (by decide) hfr, Nat.le_trans (by decide) hlo⟩ rfl rfl rfl (Nat.le_of_ble_eq_true rfl) dX11_term_97 (fun zz259 H locs hp261 G => ?_)
                  obtain ⟨oo262, kk263, h264, h265, h266⟩ := hp261
                  have kk267 : KP1 z zz259 := KPf.tr kk251 (KPU.p1 kk263)
                  have h268 := Scx.tr h252 (scx_p h252.1 kk263 rfl rfl)
                  have h269 := Scx.tr h253 (scx_p h253.1 kk263 rfl rfl)
                  have h270 : (tI zz17 386 8).toInt + 1 ≤ (tI zz259 386 8).toInt := by have h1 := h254; have h2 := (scx_p h253.1 kk263 rfl rfl).2; omega
                  have h271 : SLk z + 0 ≤ SLk zz259 := by have h1 := h255; have h2 := h265; omega
                  have h272 : Gd 1 0 z zz259 := Gd.tr h258 kk251 h266 (by decide) (by decide)
                  refine lv_goto (tgt := 9) E.1 E.2.1 dX11_term_100 (by decide) ?_
                  exact ih9 zz259 H locs ls G oo262 kk267 h268 h264 (by have h := h271; omega) (Gd.wk h272 (by decide) (by decide)) (by have := h270; have := m20; omega) (lv_sub hl [1] rfl)
                · skip
                  have b273 : iv 0 0 r242 := iv_eq c256 (iv_lit (lo := 0) (hi := 0) 0 (by decide) (by decide))
                  refine lv_iconst (v := 0) E.1 E.2.1 dX11_term_92 (by decide) ?_
                  exact RET G ⟨oo244, kk251, (iv_mono (iv_lit (lo := 0) (hi := 0) 0 (by decide) (by decide)) (by decide) (by decide)), h252, h248, (by have h := h255; omega), (fun h => absurd rfl h)⟩ (by decide) dX11_term_93
              · skip
                have b274 : iv 47 47 v222 := iv_eq c226 (iv_lit (lo := 47) (hi := 47) 47 (by decide) (by decide))
                refine lv_iconst (v := 5) E.1 E.2.1 dX11_term_68 (by decide) ?_
                refine lv_goto (tgt := 74) E.1 E.2.1 dX11_term_69 (by decide) ?_
                refine lv_istore_n (lv' := [(1, .int 5), (0, .ref (ad 386))]) E.1 E.2.1 dX11_term_74 rfl hl (by decide) rfl (fun ls hl => ?_)
                refine lv_aload_n E.1 E.2.1 dX11_term_75 rfl (lv_at hl 1 rfl) ?_
                refine lv_dup E.1 E.2.1 dX11_term_76 rfl ?_
                refine t_get E G 11 8 (rfl : ro 386 = 11) (C := RX11) (T := TX11) (N := 37) rfl (by decide) (by decide) (by decide) mw_fl_11_93 (fvl_i rfl) dX11_term_77 ?_
                refine m_ci v218 e219.symm ?_
                refine lv_iconst (v := 1) E.1 E.2.1 dX11_term_80 (by decide) ?_
                refine lv_iadd E.1 E.2.1 dX11_term_81 ?_
                refine lv_topi (fun v275 e276 => ?_)
                have b277 : iv 1 400 v275 := by rw [e276]; exact iv_add b221 (iv_lit (lo := 1) (hi := 1) 1 (by decide) (by decide)) (by decide) (by decide) (by decide) (by decide)
                have l278 : v275.toInt = 1 + 1 * v218.toInt := (show v275.toInt = v218.toInt + 1 by rw [e276]; exact ti_addc 1 (by decide) b221 (by decide) (by decide)).trans (by omega)
                refine t_puti E G 11 8 (rfl : ro 386 = 11) (C := RX11) (T := TX11) (N := 37) rfl (by decide) (by decide) (by decide) rfl rfl mw_fl_11_93 rfl dX11_term_82 (fun H locs G => ?_)
                obtain ⟨zz285, G, oo286, kk287, h288, h279, h280, h281, h282, h283, h284⟩ : ∃ u : TS, mG D A s H locs (wd K ad u) ∧ Ok u ∧ KP1 z u ∧ tI u 386 8 = v275 ∧ (Scx z u) ∧ (PIx u) ∧ (SLk z + 1 ≤ SLk u) ∧ (Gd 1 0 z u) ∧ (Scx zz17 u) ∧ ((tI zz17 386 8).toInt + 1 ≤ (tI u 386 8).toInt) := ⟨_, G, ok_i oo201 11 (rfl : ro 386 = 11) (iv_mono b277 (by decide) (by decide)) (by decide), KPf.tr kk208 (KPf_i 11 (rfl : ro 386 = 11) (by decide)), sI_self, (Scx.tr h209 (up_ls e219.symm.symm h217 (l278.trans (by omega))).1), (pi_q h212 (Same.i (by decide)) (up_ls e219.symm.symm h217 (l278.trans (by omega))).1.1 rfl rfl), (sl_q 1 h213 (Same.i (by decide)) (up_ls e219.symm.symm h217 (l278.trans (by omega))).2 (by decide)), (Gd.sm h214 (Same.i (by decide))), (Scx.tr h210 (up_ls e219.symm.symm h217 (l278.trans (by omega))).1), (by have h1 := (up_ls e219.symm.symm h217 (l278.trans (by omega))).2; have h2 := h210.2; omega)⟩
                refine lv_aload_n E.1 E.2.1 dX11_term_85 rfl (lv_at hl 1 rfl) ?_
                refine t_vi E G hl (v_value l D K ad zz285 oo286 h280 (by have h1 := hs; have h2 := h281; omega)) 11 (rfl : ro 386 = 11) (by decide) rfl rfl 0 rfl mw_code_X11_value mw_ini_11 mw_ml_11_177 mw_inst_X11_value mw_sel_X11_value hd_X11_value ⟨Nat.le_trans (by decide) hfr, Nat.le_trans (by decide) hlo⟩ rfl rfl rfl (Nat.le_of_ble_eq_true rfl) dX11_term_86 (fun r290 zz289 H locs hp291 G => ?_)
                obtain ⟨oo292, kk293, b294, h295, h296, h297, h298⟩ := hp291
                have kk299 : KP1 z zz289 := KPf.tr kk287 kk293
                have h300 := Scx.tr h279 h295
                have h301 := Scx.tr h283 h295
                have h302 : (tI zz17 386 8).toInt + 1 ≤ (tI zz289 386 8).toInt := by have h1 := h284; have h2 := h295.2; omega
                have h303 : SLk z + 1 ≤ SLk zz289 := by have h1 := h281; have h2 := h297; omega
                refine lv_if_ne (tgt := 94) E.1 E.2.1 dX11_term_89 (by decide) (fun c304 => ?_) (fun c304 => ?_)
                · skip
                  have b305 : iv 1 1 r290 := ne_lo c304 b294 (by decide) (by decide)
                  have h306 : Gd 2 0 z zz289 := Gd.tr h282 kk287 (h298 c304) (by decide) (by decide)
                  refine lv_aload_n E.1 E.2.1 dX11_term_94 rfl (lv_at hl 1 rfl) ?_
                  refine lv_iload_n E.1 E.2.1 dX11_term_95 rfl (lv_at hl 0 rfl) ?_
                  refine lv_iconst (v := 0) E.1 E.2.1 dX11_term_96 (by decide) ?_
                  refine t_vv E G hl (v_puts_op l D K ad zz289 oo292 (5 : Int32) (iv_mono (iv_lit (lo := 5) (hi := 5) 5 (by decide) (by decide)) (by decide) (by decide)) h296 (le399 oo292 (by have h1 := hs; have h2 := h303; omega)) (by decide)) 11 (rfl : ro 386 = 11) (by decide) rfl rfl 2 rfl mw_code_X11_puts mw_ini_11 mw_ml_11_163 mw_inst_X11_puts mw_sel_X11_puts hd_X11_puts ⟨Nat.le_trans (by decide) hfr, Nat.le_trans (by decide) hlo⟩ rfl rfl rfl (Nat.le_of_ble_eq_true rfl) dX11_term_97 (fun zz307 H locs hp309 G => ?_)
                  obtain ⟨oo310, kk311, h312, h313, h314⟩ := hp309
                  have kk315 : KP1 z zz307 := KPf.tr kk299 (KPU.p1 kk311)
                  have h316 := Scx.tr h300 (scx_p h300.1 kk311 rfl rfl)
                  have h317 := Scx.tr h301 (scx_p h301.1 kk311 rfl rfl)
                  have h318 : (tI zz17 386 8).toInt + 1 ≤ (tI zz307 386 8).toInt := by have h1 := h302; have h2 := (scx_p h301.1 kk311 rfl rfl).2; omega
                  have h319 : SLk z + 0 ≤ SLk zz307 := by have h1 := h303; have h2 := h313; omega
                  have h320 : Gd 1 0 z zz307 := Gd.tr h306 kk299 h314 (by decide) (by decide)
                  refine lv_goto (tgt := 9) E.1 E.2.1 dX11_term_100 (by decide) ?_
                  exact ih9 zz307 H locs ls G oo310 kk315 h316 h312 (by have h := h319; omega) (Gd.wk h320 (by decide) (by decide)) (by have := h318; have := m20; omega) (lv_sub hl [1] rfl)
                · skip
                  have b321 : iv 0 0 r290 := iv_eq c304 (iv_lit (lo := 0) (hi := 0) 0 (by decide) (by decide))
                  refine lv_iconst (v := 0) E.1 E.2.1 dX11_term_92 (by decide) ?_
                  exact RET G ⟨oo292, kk299, (iv_mono (iv_lit (lo := 0) (hi := 0) 0 (by decide) (by decide)) (by decide) (by decide)), h300, h296, (by have h := h303; omega), (fun h => absurd rfl h)⟩ (by decide) dX11_term_93
            · skip
              have b322 : iv 42 42 v222 := iv_eq c225 (iv_lit (lo := 42) (hi := 42) 42 (by decide) (by decide))
              refine lv_iconst (v := 4) E.1 E.2.1 dX11_term_50 (by decide) ?_
              refine lv_goto (tgt := 74) E.1 E.2.1 dX11_term_51 (by decide) ?_
              refine lv_istore_n (lv' := [(1, .int 4), (0, .ref (ad 386))]) E.1 E.2.1 dX11_term_74 rfl hl (by decide) rfl (fun ls hl => ?_)
              refine lv_aload_n E.1 E.2.1 dX11_term_75 rfl (lv_at hl 1 rfl) ?_
              refine lv_dup E.1 E.2.1 dX11_term_76 rfl ?_
              refine t_get E G 11 8 (rfl : ro 386 = 11) (C := RX11) (T := TX11) (N := 37) rfl (by decide) (by decide) (by decide) mw_fl_11_93 (fvl_i rfl) dX11_term_77 ?_
              refine m_ci v218 e219.symm ?_
              refine lv_iconst (v := 1) E.1 E.2.1 dX11_term_80 (by decide) ?_
              refine lv_iadd E.1 E.2.1 dX11_term_81 ?_
              refine lv_topi (fun v323 e324 => ?_)
              have b325 : iv 1 400 v323 := by rw [e324]; exact iv_add b221 (iv_lit (lo := 1) (hi := 1) 1 (by decide) (by decide)) (by decide) (by decide) (by decide) (by decide)
              have l326 : v323.toInt = 1 + 1 * v218.toInt := (show v323.toInt = v218.toInt + 1 by rw [e324]; exact ti_addc 1 (by decide) b221 (by decide) (by decide)).trans (by omega)
              refine t_puti E G 11 8 (rfl : ro 386 = 11) (C := RX11) (T := TX11) (N := 37) rfl (by decide) (by decide) (by decide) rfl rfl mw_fl_11_93 rfl dX11_term_82 (fun H locs G => ?_)
              obtain ⟨zz333, G, oo334, kk335, h336, h327, h328, h329, h330, h331, h332⟩ : ∃ u : TS, mG D A s H locs (wd K ad u) ∧ Ok u ∧ KP1 z u ∧ tI u 386 8 = v323 ∧ (Scx z u) ∧ (PIx u) ∧ (SLk z + 1 ≤ SLk u) ∧ (Gd 1 0 z u) ∧ (Scx zz17 u) ∧ ((tI zz17 386 8).toInt + 1 ≤ (tI u 386 8).toInt) := ⟨_, G, ok_i oo201 11 (rfl : ro 386 = 11) (iv_mono b325 (by decide) (by decide)) (by decide), KPf.tr kk208 (KPf_i 11 (rfl : ro 386 = 11) (by decide)), sI_self, (Scx.tr h209 (up_ls e219.symm.symm h217 (l326.trans (by omega))).1), (pi_q h212 (Same.i (by decide)) (up_ls e219.symm.symm h217 (l326.trans (by omega))).1.1 rfl rfl), (sl_q 1 h213 (Same.i (by decide)) (up_ls e219.symm.symm h217 (l326.trans (by omega))).2 (by decide)), (Gd.sm h214 (Same.i (by decide))), (Scx.tr h210 (up_ls e219.symm.symm h217 (l326.trans (by omega))).1), (by have h1 := (up_ls e219.symm.symm h217 (l326.trans (by omega))).2; have h2 := h210.2; omega)⟩
              refine lv_aload_n E.1 E.2.1 dX11_term_85 rfl (lv_at hl 1 rfl) ?_
              refine t_vi E G hl (v_value l D K ad zz333 oo334 h328 (by have h1 := hs; have h2 := h329; omega)) 11 (rfl : ro 386 = 11) (by decide) rfl rfl 0 rfl mw_code_X11_value mw_ini_11 mw_ml_11_177 mw_inst_X11_value mw_sel_X11_value hd_X11_value ⟨Nat.le_trans (by decide) hfr, Nat.le_trans (by decide) hlo⟩ rfl rfl rfl (Nat.le_of_ble_eq_true rfl) dX11_term_86 (fun r338 zz337 H locs hp339 G => ?_)
              obtain ⟨oo340, kk341, b342, h343, h344, h345, h346⟩ := hp339
              have kk347 : KP1 z zz337 := KPf.tr kk335 kk341
              have h348 := Scx.tr h327 h343
              have h349 := Scx.tr h331 h343
              have h350 : (tI zz17 386 8).toInt + 1 ≤ (tI zz337 386 8).toInt := by have h1 := h332; have h2 := h343.2; omega
              have h351 : SLk z + 1 ≤ SLk zz337 := by have h1 := h329; have h2 := h345; omega
              refine lv_if_ne (tgt := 94) E.1 E.2.1 dX11_term_89 (by decide) (fun c352 => ?_) (fun c352 => ?_)
              · skip
                have b353 : iv 1 1 r338 := ne_lo c352 b342 (by decide) (by decide)
                have h354 : Gd 2 0 z zz337 := Gd.tr h330 kk335 (h346 c352) (by decide) (by decide)
                refine lv_aload_n E.1 E.2.1 dX11_term_94 rfl (lv_at hl 1 rfl) ?_
                refine lv_iload_n E.1 E.2.1 dX11_term_95 rfl (lv_at hl 0 rfl) ?_
                refine lv_iconst (v := 0) E.1 E.2.1 dX11_term_96 (by decide) ?_
                refine t_vv E G hl (v_puts_op l D K ad zz337 oo340 (4 : Int32) (iv_mono (iv_lit (lo := 4) (hi := 4) 4 (by decide) (by decide)) (by decide) (by decide)) h344 (le399 oo340 (by have h1 := hs; have h2 := h351; omega)) (by decide)) 11 (rfl : ro 386 = 11) (by decide) rfl rfl 2 rfl mw_code_X11_puts mw_ini_11 mw_ml_11_163 mw_inst_X11_puts mw_sel_X11_puts hd_X11_puts ⟨Nat.le_trans (by decide) hfr, Nat.le_trans (by decide) hlo⟩ rfl rfl rfl (Nat.le_of_ble_eq_true rfl) dX11_term_97 (fun zz355 H locs hp357 G => ?_)
                obtain ⟨oo358, kk359, h360, h361, h362⟩ := hp357
                have kk363 : KP1 z zz355 := KPf.tr kk347 (KPU.p1 kk359)
                have h364 := Scx.tr h348 (scx_p h348.1 kk359 rfl rfl)
                have h365 := Scx.tr h349 (scx_p h349.1 kk359 rfl rfl)
                have h366 : (tI zz17 386 8).toInt + 1 ≤ (tI zz355 386 8).toInt := by have h1 := h350; have h2 := (scx_p h349.1 kk359 rfl rfl).2; omega
                have h367 : SLk z + 0 ≤ SLk zz355 := by have h1 := h351; have h2 := h361; omega
                have h368 : Gd 1 0 z zz355 := Gd.tr h354 kk347 h362 (by decide) (by decide)
                refine lv_goto (tgt := 9) E.1 E.2.1 dX11_term_100 (by decide) ?_
                exact ih9 zz355 H locs ls G oo358 kk363 h364 h360 (by have h := h367; omega) (Gd.wk h368 (by decide) (by decide)) (by have := h366; have := m20; omega) (lv_sub hl [1] rfl)
              · skip
                have b369 : iv 0 0 r338 := iv_eq c352 (iv_lit (lo := 0) (hi := 0) 0 (by decide) (by decide))
                refine lv_iconst (v := 0) E.1 E.2.1 dX11_term_92 (by decide) ?_
                exact RET G ⟨oo340, kk347, (iv_mono (iv_lit (lo := 0) (hi := 0) 0 (by decide) (by decide)) (by decide) (by decide)), h348, h344, (by have h := h351; omega), (fun h => absurd rfl h)⟩ (by decide) dX11_term_93
          · skip
            refine lv_aload_n E.1 E.2.1 dX11_term_27 rfl (lv_at hl 0 rfl) ?_
            refine t_vi E G hl (v_see l D K ad zz198 oo201 h209.1) 11 (rfl : ro 386 = 11) (by decide) rfl rfl 0 rfl mw_code_X11_see mw_ini_11 mw_ml_11_96 mw_inst_X11_see mw_sel_X11_see hd_X11_see ⟨Nat.le_trans (by decide) hfr, Nat.le_trans (by decide) hlo⟩ rfl rfl rfl (Nat.le_of_ble_eq_true rfl) dX11_term_28 (fun r371 zz370 H locs hp372 G => ?_)
            obtain ⟨oo373, kk374, b375, h376, h377, h378, h379⟩ := hp372
            have kk380 : KP1 z zz370 := KPf.tr kk208 (KN8.p1 kk374)
            have h381 := Scx.tr h209 h376
            have h382 := Scx.tr h210 h376
            have sm383 := Same.of kk374 rfl rfl rfl
            have h384 : PIx zz370 := pi_q h212 sm383 h381.1 (kk374.1 386 12 rfl) (kk374.1 386 11 rfl)
            have h385 : SLk z + 0 ≤ SLk zz370 := sl_q 0 h213 sm383 (by have h := h376.2; omega) (by decide)
            have h386 := Gd.sm h214 sm383
            refine lv_bipush (v := 37) E.1 E.2.1 dX11_term_31 (by decide) ?_
            refine lv_icmp_ne (tgt := 103) E.1 E.2.1 dX11_term_33 (by decide) (fun c387 => ?_) (fun c387 => ?_)
            · skip
              refine lv_iconst (v := 1) E.1 E.2.1 dX11_term_103 (by decide) ?_
              exact RET G ⟨oo373, kk380, (iv_mono (iv_lit (lo := 1) (hi := 1) 1 (by decide) (by decide)) (by decide) (by decide)), h381, h384, (by have h := h385; omega), (fun _ => Gd.wk h386 (by decide) (by decide))⟩ (by decide) dX11_term_104
            · skip
              have b388 : iv 37 37 r371 := iv_eq c387 (iv_lit (lo := 37) (hi := 37) 37 (by decide) (by decide))
              have h389 : LSx zz370 := h379 (Int.le_trans (by decide) b388.1)
              refine lv_aload_n E.1 E.2.1 dX11_term_36 rfl (lv_at hl 0 rfl) ?_
              refine t_get E G 11 0 (rfl : ro 386 = 11) (C := RX11) (T := TX11) (N := 37) rfl (by decide) (by decide) (by decide) mw_fl_11_7 (v := .ref (ad 387)) (fvl_o (n := 1) rfl) dX11_term_37 ?_
              refine lv_aload_n E.1 E.2.1 dX11_term_40 rfl (lv_at hl 0 rfl) ?_
              refine t_get E G 11 8 (rfl : ro 386 = 11) (C := RX11) (T := TX11) (N := 37) rfl (by decide) (by decide) (by decide) mw_fl_11_93 (fvl_i rfl) dX11_term_41 ?_
              refine lv_topi (fun v390 e391 => ?_)
              have b392 : iv 0 400 v390 := by rw [e391]; exact oo373.i 11 8 (rfl : ro 386 = 11)
              have b393 : iv 0 399 v390 := LSx.iv oo373 h389 e391
              refine t_bald E G 45 (rfl : ro 387 = 45) (by decide) (by decide) rfl (n := 400) rfl (iv_vp b393 (by decide) (by decide)) dX11_term_44 ?_
              refine lv_topi (fun v394 e395 => ?_)
              have b396 : iv (-128) 127 v394 := by rw [e395]; exact iv_mono (rd_u oo373 45 (rfl : ro 387 = 45) (by decide) _) (by decide) (by decide)
              refine lv_bipush (v := 42) E.1 E.2.1 dX11_term_45 (by decide) ?_
              refine lv_icmp_ne (tgt := 54) E.1 E.2.1 dX11_term_47 (by decide) (fun c397 => ?_) (fun c397 => ?_)
              · skip
                refine lv_aload_n E.1 E.2.1 dX11_term_54 rfl (lv_at hl 0 rfl) ?_
                refine t_get E G 11 0 (rfl : ro 386 = 11) (C := RX11) (T := TX11) (N := 37) rfl (by decide) (by decide) (by decide) mw_fl_11_7 (v := .ref (ad 387)) (fvl_o (n := 1) rfl) dX11_term_55 ?_
                refine lv_aload_n E.1 E.2.1 dX11_term_58 rfl (lv_at hl 0 rfl) ?_
                refine t_get E G 11 8 (rfl : ro 386 = 11) (C := RX11) (T := TX11) (N := 37) rfl (by decide) (by decide) (by decide) mw_fl_11_93 (fvl_i rfl) dX11_term_59 ?_
                refine m_ci v390 e391.symm ?_
                refine t_bald E G 45 (rfl : ro 387 = 45) (by decide) (by decide) rfl (n := 400) rfl (iv_vp b393 (by decide) (by decide)) dX11_term_62 ?_
                refine m_ci v394 e395.symm ?_
                refine lv_bipush (v := 47) E.1 E.2.1 dX11_term_63 (by decide) ?_
                refine lv_icmp_ne (tgt := 72) E.1 E.2.1 dX11_term_65 (by decide) (fun c398 => ?_) (fun c398 => ?_)
                · skip
                  refine lv_bipush (v := 14) E.1 E.2.1 dX11_term_72 (by decide) ?_
                  refine lv_istore_n (lv' := [(1, .int 14), (0, .ref (ad 386))]) E.1 E.2.1 dX11_term_74 rfl hl (by decide) rfl (fun ls hl => ?_)
                  refine lv_aload_n E.1 E.2.1 dX11_term_75 rfl (lv_at hl 1 rfl) ?_
                  refine lv_dup E.1 E.2.1 dX11_term_76 rfl ?_
                  refine t_get E G 11 8 (rfl : ro 386 = 11) (C := RX11) (T := TX11) (N := 37) rfl (by decide) (by decide) (by decide) mw_fl_11_93 (fvl_i rfl) dX11_term_77 ?_
                  refine m_ci v390 e391.symm ?_
                  refine lv_iconst (v := 1) E.1 E.2.1 dX11_term_80 (by decide) ?_
                  refine lv_iadd E.1 E.2.1 dX11_term_81 ?_
                  refine lv_topi (fun v399 e400 => ?_)
                  have b401 : iv 1 400 v399 := by rw [e400]; exact iv_add b393 (iv_lit (lo := 1) (hi := 1) 1 (by decide) (by decide)) (by decide) (by decide) (by decide) (by decide)
                  have l402 : v399.toInt = 1 + 1 * v390.toInt := (show v399.toInt = v390.toInt + 1 by rw [e400]; exact ti_addc 1 (by decide) b393 (by decide) (by decide)).trans (by omega)
                  refine t_puti E G 11 8 (rfl : ro 386 = 11) (C := RX11) (T := TX11) (N := 37) rfl (by decide) (by decide) (by decide) rfl rfl mw_fl_11_93 rfl dX11_term_82 (fun H locs G => ?_)
                  obtain ⟨zz409, G, oo410, kk411, h412, h403, h404, h405, h406, h407, h408⟩ : ∃ u : TS, mG D A s H locs (wd K ad u) ∧ Ok u ∧ KP1 z u ∧ tI u 386 8 = v399 ∧ (Scx z u) ∧ (PIx u) ∧ (SLk z + 1 ≤ SLk u) ∧ (Gd 1 0 z u) ∧ (Scx zz17 u) ∧ ((tI zz17 386 8).toInt + 1 ≤ (tI u 386 8).toInt) := ⟨_, G, ok_i oo373 11 (rfl : ro 386 = 11) (iv_mono b401 (by decide) (by decide)) (by decide), KPf.tr kk380 (KPf_i 11 (rfl : ro 386 = 11) (by decide)), sI_self, (Scx.tr h381 (up_ls e391.symm.symm h389 (l402.trans (by omega))).1), (pi_q h384 (Same.i (by decide)) (up_ls e391.symm.symm h389 (l402.trans (by omega))).1.1 rfl rfl), (sl_q 1 h385 (Same.i (by decide)) (up_ls e391.symm.symm h389 (l402.trans (by omega))).2 (by decide)), (Gd.sm h386 (Same.i (by decide))), (Scx.tr h382 (up_ls e391.symm.symm h389 (l402.trans (by omega))).1), (by have h1 := (up_ls e391.symm.symm h389 (l402.trans (by omega))).2; have h2 := h382.2; omega)⟩
                  refine lv_aload_n E.1 E.2.1 dX11_term_85 rfl (lv_at hl 1 rfl) ?_
                  refine t_vi E G hl (v_value l D K ad zz409 oo410 h404 (by have h1 := hs; have h2 := h405; omega)) 11 (rfl : ro 386 = 11) (by decide) rfl rfl 0 rfl mw_code_X11_value mw_ini_11 mw_ml_11_177 mw_inst_X11_value mw_sel_X11_value hd_X11_value ⟨Nat.le_trans (by decide) hfr, Nat.le_trans (by decide) hlo⟩ rfl rfl rfl (Nat.le_of_ble_eq_true rfl) dX11_term_86 (fun r414 zz413 H locs hp415 G => ?_)
                  obtain ⟨oo416, kk417, b418, h419, h420, h421, h422⟩ := hp415
                  have kk423 : KP1 z zz413 := KPf.tr kk411 kk417
                  have h424 := Scx.tr h403 h419
                  have h425 := Scx.tr h407 h419
                  have h426 : (tI zz17 386 8).toInt + 1 ≤ (tI zz413 386 8).toInt := by have h1 := h408; have h2 := h419.2; omega
                  have h427 : SLk z + 1 ≤ SLk zz413 := by have h1 := h405; have h2 := h421; omega
                  refine lv_if_ne (tgt := 94) E.1 E.2.1 dX11_term_89 (by decide) (fun c428 => ?_) (fun c428 => ?_)
                  · skip
                    have b429 : iv 1 1 r414 := ne_lo c428 b418 (by decide) (by decide)
                    have h430 : Gd 2 0 z zz413 := Gd.tr h406 kk411 (h422 c428) (by decide) (by decide)
                    refine lv_aload_n E.1 E.2.1 dX11_term_94 rfl (lv_at hl 1 rfl) ?_
                    refine lv_iload_n E.1 E.2.1 dX11_term_95 rfl (lv_at hl 0 rfl) ?_
                    refine lv_iconst (v := 0) E.1 E.2.1 dX11_term_96 (by decide) ?_
                    refine t_vv E G hl (v_puts_op l D K ad zz413 oo416 (14 : Int32) (iv_mono (iv_lit (lo := 14) (hi := 14) 14 (by decide) (by decide)) (by decide) (by decide)) h420 (le399 oo416 (by have h1 := hs; have h2 := h427; omega)) (by decide)) 11 (rfl : ro 386 = 11) (by decide) rfl rfl 2 rfl mw_code_X11_puts mw_ini_11 mw_ml_11_163 mw_inst_X11_puts mw_sel_X11_puts hd_X11_puts ⟨Nat.le_trans (by decide) hfr, Nat.le_trans (by decide) hlo⟩ rfl rfl rfl (Nat.le_of_ble_eq_true rfl) dX11_term_97 (fun zz431 H locs hp433 G => ?_)
                    obtain ⟨oo434, kk435, h436, h437, h438⟩ := hp433
                    have kk439 : KP1 z zz431 := KPf.tr kk423 (KPU.p1 kk435)
                    have h440 := Scx.tr h424 (scx_p h424.1 kk435 rfl rfl)
                    have h441 := Scx.tr h425 (scx_p h425.1 kk435 rfl rfl)
                    have h442 : (tI zz17 386 8).toInt + 1 ≤ (tI zz431 386 8).toInt := by have h1 := h426; have h2 := (scx_p h425.1 kk435 rfl rfl).2; omega
                    have h443 : SLk z + 0 ≤ SLk zz431 := by have h1 := h427; have h2 := h437; omega
                    have h444 : Gd 1 0 z zz431 := Gd.tr h430 kk423 h438 (by decide) (by decide)
                    refine lv_goto (tgt := 9) E.1 E.2.1 dX11_term_100 (by decide) ?_
                    exact ih9 zz431 H locs ls G oo434 kk439 h440 h436 (by have h := h443; omega) (Gd.wk h444 (by decide) (by decide)) (by have := h442; have := m20; omega) (lv_sub hl [1] rfl)
                  · skip
                    have b445 : iv 0 0 r414 := iv_eq c428 (iv_lit (lo := 0) (hi := 0) 0 (by decide) (by decide))
                    refine lv_iconst (v := 0) E.1 E.2.1 dX11_term_92 (by decide) ?_
                    exact RET G ⟨oo416, kk423, (iv_mono (iv_lit (lo := 0) (hi := 0) 0 (by decide) (by decide)) (by decide) (by decide)), h424, h420, (by have h := h427; omega), (fun h => absurd rfl h)⟩ (by decide) dX11_term_93
                · skip
                  have b446 : iv 47 47 v394 := iv_eq c398 (iv_lit (lo := 47) (hi := 47) 47 (by decide) (by decide))
                  refine lv_iconst (v := 5) E.1 E.2.1 dX11_term_68 (by decide) ?_
                  refine lv_goto (tgt := 74) E.1 E.2.1 dX11_term_69 (by decide) ?_
                  refine lv_istore_n (lv' := [(1, .int 5), (0, .ref (ad 386))]) E.1 E.2.1 dX11_term_74 rfl hl (by decide) rfl (fun ls hl => ?_)
                  refine lv_aload_n E.1 E.2.1 dX11_term_75 rfl (lv_at hl 1 rfl) ?_
                  refine lv_dup E.1 E.2.1 dX11_term_76 rfl ?_
                  refine t_get E G 11 8 (rfl : ro 386 = 11) (C := RX11) (T := TX11) (N := 37) rfl (by decide) (by decide) (by decide) mw_fl_11_93 (fvl_i rfl) dX11_term_77 ?_
                  refine m_ci v390 e391.symm ?_
                  refine lv_iconst (v := 1) E.1 E.2.1 dX11_term_80 (by decide) ?_
                  refine lv_iadd E.1 E.2.1 dX11_term_81 ?_
                  refine lv_topi (fun v447 e448 => ?_)
                  have b449 : iv 1 400 v447 := by rw [e448]; exact iv_add b393 (iv_lit (lo := 1) (hi := 1) 1 (by decide) (by decide)) (by decide) (by decide) (by decide) (by decide)
                  have l450 : v447.toInt = 1 + 1 * v390.toInt := (show v447.toInt = v390.toInt + 1 by rw [e448]; exact ti_addc 1 (by decide) b393 (by decide) (by decide)).trans (by omega)
                  refine t_puti E G 11 8 (rfl : ro 386 = 11) (C := RX11) (T := TX11) (N := 37) rfl (by decide) (by decide) (by decide) rfl rfl mw_fl_11_93 rfl dX11_term_82 (fun H locs G => ?_)
                  obtain ⟨zz457, G, oo458, kk459, h460, h451, h452, h453, h454, h455, h456⟩ : ∃ u : TS, mG D A s H locs (wd K ad u) ∧ Ok u ∧ KP1 z u ∧ tI u 386 8 = v447 ∧ (Scx z u) ∧ (PIx u) ∧ (SLk z + 1 ≤ SLk u) ∧ (Gd 1 0 z u) ∧ (Scx zz17 u) ∧ ((tI zz17 386 8).toInt + 1 ≤ (tI u 386 8).toInt) := ⟨_, G, ok_i oo373 11 (rfl : ro 386 = 11) (iv_mono b449 (by decide) (by decide)) (by decide), KPf.tr kk380 (KPf_i 11 (rfl : ro 386 = 11) (by decide)), sI_self, (Scx.tr h381 (up_ls e391.symm.symm h389 (l450.trans (by omega))).1), (pi_q h384 (Same.i (by decide)) (up_ls e391.symm.symm h389 (l450.trans (by omega))).1.1 rfl rfl), (sl_q 1 h385 (Same.i (by decide)) (up_ls e391.symm.symm h389 (l450.trans (by omega))).2 (by decide)), (Gd.sm h386 (Same.i (by decide))), (Scx.tr h382 (up_ls e391.symm.symm h389 (l450.trans (by omega))).1), (by have h1 := (up_ls e391.symm.symm h389 (l450.trans (by omega))).2; have h2 := h382.2; omega)⟩
                  refine lv_aload_n E.1 E.2.1 dX11_term_85 rfl (lv_at hl 1 rfl) ?_
                  refine t_vi E G hl (v_value l D K ad zz457 oo458 h452 (by have h1 := hs; have h2 := h453; omega)) 11 (rfl : ro 386 = 11) (by decide) rfl rfl 0 rfl mw_code_X11_value mw_ini_11 mw_ml_11_177 mw_inst_X11_value mw_sel_X11_value hd_X11_value ⟨Nat.le_trans (by decide) hfr, Nat.le_trans (by decide) hlo⟩ rfl rfl rfl (Nat.le_of_ble_eq_true rfl) dX11_term_86 (fun r462 zz461 H locs hp463 G => ?_)
                  obtain ⟨oo464, kk465, b466, h467, h468, h469, h470⟩ := hp463
                  have kk471 : KP1 z zz461 := KPf.tr kk459 kk465
                  have h472 := Scx.tr h451 h467
                  have h473 := Scx.tr h455 h467
                  have h474 : (tI zz17 386 8).toInt + 1 ≤ (tI zz461 386 8).toInt := by have h1 := h456; have h2 := h467.2; omega
                  have h475 : SLk z + 1 ≤ SLk zz461 := by have h1 := h453; have h2 := h469; omega
                  refine lv_if_ne (tgt := 94) E.1 E.2.1 dX11_term_89 (by decide) (fun c476 => ?_) (fun c476 => ?_)
                  · skip
                    have b477 : iv 1 1 r462 := ne_lo c476 b466 (by decide) (by decide)
                    have h478 : Gd 2 0 z zz461 := Gd.tr h454 kk459 (h470 c476) (by decide) (by decide)
                    refine lv_aload_n E.1 E.2.1 dX11_term_94 rfl (lv_at hl 1 rfl) ?_
                    refine lv_iload_n E.1 E.2.1 dX11_term_95 rfl (lv_at hl 0 rfl) ?_
                    refine lv_iconst (v := 0) E.1 E.2.1 dX11_term_96 (by decide) ?_
                    refine t_vv E G hl (v_puts_op l D K ad zz461 oo464 (5 : Int32) (iv_mono (iv_lit (lo := 5) (hi := 5) 5 (by decide) (by decide)) (by decide) (by decide)) h468 (le399 oo464 (by have h1 := hs; have h2 := h475; omega)) (by decide)) 11 (rfl : ro 386 = 11) (by decide) rfl rfl 2 rfl mw_code_X11_puts mw_ini_11 mw_ml_11_163 mw_inst_X11_puts mw_sel_X11_puts hd_X11_puts ⟨Nat.le_trans (by decide) hfr, Nat.le_trans (by decide) hlo⟩ rfl rfl rfl (Nat.le_of_ble_eq_true rfl) dX11_term_97 (fun zz479 H locs hp481 G => ?_)
                    obtain ⟨oo482, kk483, h484, h485, h486⟩ := hp481
                    have kk487 : KP1 z zz479 := KPf.tr kk471 (KPU.p1 kk483)
                    have h488 := Scx.tr h472 (scx_p h472.1 kk483 rfl rfl)
                    have h489 := Scx.tr h473 (scx_p h473.1 kk483 rfl rfl)
                    have h490 : (tI zz17 386 8).toInt + 1 ≤ (tI zz479 386 8).toInt := by have h1 := h474; have h2 := (scx_p h473.1 kk483 rfl rfl).2; omega
                    have h491 : SLk z + 0 ≤ SLk zz479 := by have h1 := h475; have h2 := h485; omega
                    have h492 : Gd 1 0 z zz479 := Gd.tr h478 kk471 h486 (by decide) (by decide)
                    refine lv_goto (tgt := 9) E.1 E.2.1 dX11_term_100 (by decide) ?_
                    exact ih9 zz479 H locs ls G oo482 kk487 h488 h484 (by have h := h491; omega) (Gd.wk h492 (by decide) (by decide)) (by have := h490; have := m20; omega) (lv_sub hl [1] rfl)
                  · skip
                    have b493 : iv 0 0 r462 := iv_eq c476 (iv_lit (lo := 0) (hi := 0) 0 (by decide) (by decide))
                    refine lv_iconst (v := 0) E.1 E.2.1 dX11_term_92 (by decide) ?_
                    exact RET G ⟨oo464, kk471, (iv_mono (iv_lit (lo := 0) (hi := 0) 0 (by decide) (by decide)) (by decide) (by decide)), h472, h468, (by have h := h475; omega), (fun h => absurd rfl h)⟩ (by decide) dX11_term_93
              · skip
                have b494 : iv 42 42 v394 := iv_eq c397 (iv_lit (lo := 42) (hi := 42) 42 (by decide) (by decide))
                refine lv_iconst (v := 4) E.1 E.2.1 dX11_term_50 (by decide) ?_
                refine lv_goto (tgt := 74) E.1 E.2.1 dX11_term_51 (by decide) ?_
                refine lv_istore_n (lv' := [(1, .int 4), (0, .ref (ad 386))]) E.1 E.2.1 dX11_term_74 rfl hl (by decide) rfl (fun ls hl => ?_)
                refine lv_aload_n E.1 E.2.1 dX11_term_75 rfl (lv_at hl 1 rfl) ?_
                refine lv_dup E.1 E.2.1 dX11_term_76 rfl ?_
                refine t_get E G 11 8 (rfl : ro 386 = 11) (C := RX11) (T := TX11) (N := 37) rfl (by decide) (by decide) (by decide) mw_fl_11_93 (fvl_i rfl) dX11_term_77 ?_
                refine m_ci v390 e391.symm ?_
                refine lv_iconst (v := 1) E.1 E.2.1 dX11_term_80 (by decide) ?_
                refine lv_iadd E.1 E.2.1 dX11_term_81 ?_
                refine lv_topi (fun v495 e496 => ?_)
                have b497 : iv 1 400 v495 := by rw [e496]; exact iv_add b393 (iv_lit (lo := 1) (hi := 1) 1 (by decide) (by decide)) (by decide) (by decide) (by decide) (by decide)
                have l498 : v495.toInt = 1 + 1 * v390.toInt := (show v495.toInt = v390.toInt + 1 by rw [e496]; exact ti_addc 1 (by decide) b393 (by decide) (by decide)).trans (by omega)
                refine t_puti E G 11 8 (rfl : ro 386 = 11) (C := RX11) (T := TX11) (N := 37) rfl (by decide) (by decide) (by decide) rfl rfl mw_fl_11_93 rfl dX11_term_82 (fun H locs G => ?_)
                obtain ⟨zz505, G, oo506, kk507, h508, h499, h500, h501, h502, h503, h504⟩ : ∃ u : TS, mG D A s H locs (wd K ad u) ∧ Ok u ∧ KP1 z u ∧ tI u 386 8 = v495 ∧ (Scx z u) ∧ (PIx u) ∧ (SLk z + 1 ≤ SLk u) ∧ (Gd 1 0 z u) ∧ (Scx zz17 u) ∧ ((tI zz17 386 8).toInt + 1 ≤ (tI u 386 8).toInt) := ⟨_, G, ok_i oo373 11 (rfl : ro 386 = 11) (iv_mono b497 (by decide) (by decide)) (by decide), KPf.tr kk380 (KPf_i 11 (rfl : ro 386 = 11) (by decide)), sI_self, (Scx.tr h381 (up_ls e391.symm.symm h389 (l498.trans (by omega))).1), (pi_q h384 (Same.i (by decide)) (up_ls e391.symm.symm h389 (l498.trans (by omega))).1.1 rfl rfl), (sl_q 1 h385 (Same.i (by decide)) (up_ls e391.symm.symm h389 (l498.trans (by omega))).2 (by decide)), (Gd.sm h386 (Same.i (by decide))), (Scx.tr h382 (up_ls e391.symm.symm h389 (l498.trans (by omega))).1), (by have h1 := (up_ls e391.symm.symm h389 (l498.trans (by omega))).2; have h2 := h382.2; omega)⟩
                refine lv_aload_n E.1 E.2.1 dX11_term_85 rfl (lv_at hl 1 rfl) ?_
                refine t_vi E G hl (v_value l D K ad zz505 oo506 h500 (by have h1 := hs; have h2 := h501; omega)) 11 (rfl : ro 386 = 11) (by decide) rfl rfl 0 rfl mw_code_X11_value mw_ini_11 mw_ml_11_177 mw_inst_X11_value mw_sel_X11_value hd_X11_value ⟨Nat.le_trans (by decide) hfr, Nat.le_trans (by decide) hlo⟩ rfl rfl rfl (Nat.le_of_ble_eq_true rfl) dX11_term_86 (fun r510 zz509 H locs hp511 G => ?_)
                obtain ⟨oo512, kk513, b514, h515, h516, h517, h518⟩ := hp511
                have kk519 : KP1 z zz509 := KPf.tr kk507 kk513
                have h520 := Scx.tr h499 h515
                have h521 := Scx.tr h503 h515
                have h522 : (tI zz17 386 8).toInt + 1 ≤ (tI zz509 386 8).toInt := by have h1 := h504; have h2 := h515.2; omega
                have h523 : SLk z + 1 ≤ SLk zz509 := by have h1 := h501; have h2 := h517; omega
                refine lv_if_ne (tgt := 94) E.1 E.2.1 dX11_term_89 (by decide) (fun c524 => ?_) (fun c524 => ?_)
                · skip
                  have b525 : iv 1 1 r510 := ne_lo c524 b514 (by decide) (by decide)
                  have h526 : Gd 2 0 z zz509 := Gd.tr h502 kk507 (h518 c524) (by decide) (by decide)
                  refine lv_aload_n E.1 E.2.1 dX11_term_94 rfl (lv_at hl 1 rfl) ?_
                  refine lv_iload_n E.1 E.2.1 dX11_term_95 rfl (lv_at hl 0 rfl) ?_
                  refine lv_iconst (v := 0) E.1 E.2.1 dX11_term_96 (by decide) ?_
                  refine t_vv E G hl (v_puts_op l D K ad zz509 oo512 (4 : Int32) (iv_mono (iv_lit (lo := 4) (hi := 4) 4 (by decide) (by decide)) (by decide) (by decide)) h516 (le399 oo512 (by have h1 := hs; have h2 := h523; omega)) (by decide)) 11 (rfl : ro 386 = 11) (by decide) rfl rfl 2 rfl mw_code_X11_puts mw_ini_11 mw_ml_11_163 mw_inst_X11_puts mw_sel_X11_puts hd_X11_puts ⟨Nat.le_trans (by decide) hfr, Nat.le_trans (by decide) hlo⟩ rfl rfl rfl (Nat.le_of_ble_eq_true rfl) dX11_term_97 (fun zz527 H locs hp529 G => ?_)
                  obtain ⟨oo530, kk531, h532, h533, h534⟩ := hp529
                  have kk535 : KP1 z zz527 := KPf.tr kk519 (KPU.p1 kk531)
                  have h536 := Scx.tr h520 (scx_p h520.1 kk531 rfl rfl)
                  have h537 := Scx.tr h521 (scx_p h521.1 kk531 rfl rfl)
                  have h538 : (tI zz17 386 8).toInt + 1 ≤ (tI zz527 386 8).toInt := by have h1 := h522; have h2 := (scx_p h521.1 kk531 rfl rfl).2; omega
                  have h539 : SLk z + 0 ≤ SLk zz527 := by have h1 := h523; have h2 := h533; omega
                  have h540 : Gd 1 0 z zz527 := Gd.tr h526 kk519 h534 (by decide) (by decide)
                  refine lv_goto (tgt := 9) E.1 E.2.1 dX11_term_100 (by decide) ?_
                  exact ih9 zz527 H locs ls G oo530 kk535 h536 h532 (by have h := h539; omega) (Gd.wk h540 (by decide) (by decide)) (by have := h538; have := m20; omega) (lv_sub hl [1] rfl)
                · skip
                  have b541 : iv 0 0 r510 := iv_eq c524 (iv_lit (lo := 0) (hi := 0) 0 (by decide) (by decide))
                  refine lv_iconst (v := 0) E.1 E.2.1 dX11_term_92 (by decide) ?_
                  exact RET G ⟨oo512, kk519, (iv_mono (iv_lit (lo := 0) (hi := 0) 0 (by decide) (by decide)) (by decide) (by decide)), h520, h516, (by have h := h523; omega), (fun h => absurd rfl h)⟩ (by decide) dX11_term_93
    exact LOOP9 401 zz1 H locs ls G oo4 kk11 h12 h8 (by have h := h13; omega) (Gd.wk h16 (by decide) (by decide)) (by have := (oo4.i (j := 386) 11 8 rfl).1; have e : ilo 11 8 = 0 := (by decide); omega) (lv_sub hl [0] rfl)
  · skip
    have b542 : iv 0 0 r2 := iv_eq c14 (iv_lit (lo := 0) (hi := 0) 0 (by decide) (by decide))
    refine lv_iconst (v := 0) E.1 E.2.1 dX11_term_7 (by decide) ?_
    exact RET G ⟨oo4, kk11, (iv_mono (iv_lit (lo := 0) (hi := 0) 0 (by decide) (by decide)) (by decide) (by decide)), h12, h8, (by have h := h13; omega), (fun h => absurd rfl h)⟩ (by decide) dX11_term_8
