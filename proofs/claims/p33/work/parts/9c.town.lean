theorem mw_code_X11_readsAll : (Cond.code yX11_readsAll cX11_readsAll 2 (some .boolean) : Cond) ∈ cw := cw_of (List.mem_append_right _ (List.mem_append_right _ (List.mem_append_right _ (List.mem_append_right _ (List.mem_append_right _ (List.mem_append_left _ (List.mem_of_getElem? (i := 239) rfl))))))) (by decide +kernel)
theorem mw_inst_X11_readsAll : (Cond.instanceMethod yX11_readsAll : Cond) ∈ cw := cw_of (List.mem_append_right _ (List.mem_append_right _ (List.mem_append_right _ (List.mem_append_right _ (List.mem_append_right _ (List.mem_append_left _ (List.mem_of_getElem? (i := 238) (by decide +kernel)))))))) (by decide +kernel)
theorem mw_ml_11_261 : (Cond.methodLink RX11 261 yX11_readsAll : Cond) ∈ cw := cw_of (List.mem_append_right _ (List.mem_append_right _ (List.mem_append_right _ (List.mem_append_right _ (List.mem_append_right _ (List.mem_append_left _ (List.mem_of_getElem? (i := 236) (by decide +kernel)))))))) (by decide +kernel)
theorem mw_sel_X11_readsAll : (Cond.selects RX11 yX11_readsAll yX11_readsAll : Cond) ∈ cw := cw_of (List.mem_append_left _ (List.mem_of_getElem? (i := 48) (by decide +kernel))) (by decide +kernel)
theorem dX11_town_0 : decode cX11_town 0 = .ok (.aload_n 0, 1) := by decide +kernel
theorem dX11_town_1 : decode cX11_town 1 = .ok (.bipush 6, 2) := by decide +kernel
theorem dX11_town_3 : decode cX11_town 3 = .ok (.putfield 147, 3) := by decide +kernel
theorem dX11_town_6 : decode cX11_town 6 = .ok (.iconst 0, 1) := by decide +kernel
theorem dX11_town_7 : decode cX11_town 7 = .ok (.istore_n 1, 1) := by decide +kernel
theorem dX11_town_8 : decode cX11_town 8 = .ok (.iload_n 1, 1) := by decide +kernel
theorem dX11_town_9 : decode cX11_town 9 = .ok (.bipush 96, 2) := by decide +kernel
theorem dX11_town_11 : decode cX11_town 11 = .ok (.if_icmp .ge 16, 3) := by decide +kernel
theorem dX11_town_14 : decode cX11_town 14 = .ok (.aload_n 0, 1) := by decide +kernel
theorem dX11_town_15 : decode cX11_town 15 = .ok (.getfield 26, 3) := by decide +kernel
theorem dX11_town_18 : decode cX11_town 18 = .ok (.iload_n 1, 1) := by decide +kernel
theorem dX11_town_19 : decode cX11_town 19 = .ok (.iconst 0, 1) := by decide +kernel
theorem dX11_town_20 : decode cX11_town 20 = .ok (.iastore, 1) := by decide +kernel
theorem dX11_town_21 : decode cX11_town 21 = .ok (.iinc 1 1, 3) := by decide +kernel
theorem dX11_town_24 : decode cX11_town 24 = .ok (.goto (-16), 3) := by decide +kernel
theorem dX11_town_27 : decode cX11_town 27 = .ok (.aload_n 0, 1) := by decide +kernel
theorem dX11_town_28 : decode cX11_town 28 = .ok (.invokevirtual 261, 3) := by decide +kernel
theorem dX11_town_31 : decode cX11_town 31 = .ok (.ifCond .ne 11, 3) := by decide +kernel
theorem dX11_town_34 : decode cX11_town 34 = .ok (.bipush (-2), 2) := by decide +kernel
theorem dX11_town_36 : decode cX11_town 36 = .ok (.aload_n 0, 1) := by decide +kernel
theorem dX11_town_37 : decode cX11_town 37 = .ok (.getfield 90, 3) := by decide +kernel
theorem dX11_town_40 : decode cX11_town 40 = .ok (.isub, 1) := by decide +kernel
theorem dX11_town_41 : decode cX11_town 41 = .ok (.ireturn, 1) := by decide +kernel
theorem dX11_town_42 : decode cX11_town 42 = .ok (.iconst 0, 1) := by decide +kernel
theorem dX11_town_43 : decode cX11_town 43 = .ok (.istore_n 1, 1) := by decide +kernel
theorem dX11_town_44 : decode cX11_town 44 = .ok (.iload_n 1, 1) := by decide +kernel
theorem dX11_town_45 : decode cX11_town 45 = .ok (.bipush 127, 2) := by decide +kernel
theorem dX11_town_47 : decode cX11_town 47 = .ok (.if_icmp .ge 31, 3) := by decide +kernel
theorem dX11_town_50 : decode cX11_town 50 = .ok (.aload_n 0, 1) := by decide +kernel
theorem dX11_town_51 : decode cX11_town 51 = .ok (.getfield 39, 3) := by decide +kernel
theorem dX11_town_54 : decode cX11_town 54 = .ok (.iload_n 1, 1) := by decide +kernel
theorem dX11_town_55 : decode cX11_town 55 = .ok (.iload_n 1, 1) := by decide +kernel
theorem dX11_town_56 : decode cX11_town 56 = .ok (.bipush 96, 2) := by decide +kernel
theorem dX11_town_58 : decode cX11_town 58 = .ok (.if_icmp .ge 12, 3) := by decide +kernel
theorem dX11_town_61 : decode cX11_town 61 = .ok (.aload_n 0, 1) := by decide +kernel
theorem dX11_town_62 : decode cX11_town 62 = .ok (.getfield 26, 3) := by decide +kernel
theorem dX11_town_65 : decode cX11_town 65 = .ok (.iload_n 1, 1) := by decide +kernel
theorem dX11_town_66 : decode cX11_town 66 = .ok (.iaload, 1) := by decide +kernel
theorem dX11_town_67 : decode cX11_town 67 = .ok (.goto 4, 3) := by decide +kernel
theorem dX11_town_70 : decode cX11_town 70 = .ok (.iconst 0, 1) := by decide +kernel
theorem dX11_town_71 : decode cX11_town 71 = .ok (.iastore, 1) := by decide +kernel
theorem dX11_town_72 : decode cX11_town 72 = .ok (.iinc 1 1, 3) := by decide +kernel
theorem dX11_town_75 : decode cX11_town 75 = .ok (.goto (-31), 3) := by decide +kernel
theorem dX11_town_78 : decode cX11_town 78 = .ok (.aload_n 0, 1) := by decide +kernel
theorem dX11_town_79 : decode cX11_town 79 = .ok (.invokevirtual 264, 3) := by decide +kernel
theorem dX11_town_82 : decode cX11_town 82 = .ok (.aload_n 0, 1) := by decide +kernel
theorem dX11_town_83 : decode cX11_town 83 = .ok (.iconst 0, 1) := by decide +kernel
theorem dX11_town_84 : decode cX11_town 84 = .ok (.putfield 267, 3) := by decide +kernel
theorem dX11_town_87 : decode cX11_town 87 = .ok (.aload_n 0, 1) := by decide +kernel
theorem dX11_town_88 : decode cX11_town 88 = .ok (.getfield 39, 3) := by decide +kernel
theorem dX11_town_91 : decode cX11_town 91 = .ok (.iconst 4, 1) := by decide +kernel
theorem dX11_town_92 : decode cX11_town 92 = .ok (.iaload, 1) := by decide +kernel
theorem dX11_town_93 : decode cX11_town 93 = .ok (.ireturn, 1) := by decide +kernel
theorem hd_X11_readsAll : yX11_readsAll.cls ≠ "java/lang/invoke/MethodHandle" ∧ yX11_readsAll.cls ≠ "java/lang/invoke/VarHandle" ∧ (parseMethodDescriptor yX11_readsAll.desc).map (fun d => d.parameters.length) = some 0 := ⟨by decide +kernel, by decide +kernel, by decide +kernel⟩
set_option maxHeartbeats 4000000 in
set_option maxRecDepth 100000 in
theorem v_town (l : Launch) (D : va_G) (K : Nat → ClassId) (ad : Nat → Nat) (z : TS) (o : Ok z) : cI l yX11_town cX11_town 2 .int ({ frames := 7, cells := 0, slots := 0, locals := 158 }) D K ad z [.ref (ad 386)] (fun r u => Ok u ∧ KTr z u) := by
  refine t_enterI (by decide) (Nat.le_of_ble_eq_true rfl) rfl rfl ?_
  intro p e s m args below meth c A R Q H locs ls E hfr hlo RET G hl
  have E : mE p s m meth c cX11_town args 2 RX11 D K A := E
  have hl : lv_has ls 2 [(0, .ref (ad 386))] := hl
  refine lv_aload_n E.1 E.2.1 dX11_town_0 rfl (lv_at hl 0 rfl) ?_
  refine lv_bipush (v := 6) E.1 E.2.1 dX11_town_1 (by decide) ?_
  refine t_puti E G 11 11 (rfl : ro 386 = 11) (C := RX11) (T := TX11) (N := 37) rfl (by decide) (by decide) (by decide) rfl rfl mw_fl_11_147 rfl dX11_town_3 (fun H locs G => ?_)
  obtain ⟨zz1, G, oo2, kk3, h4⟩ : ∃ u : TS, mG D A s H locs (wd K ad u) ∧ Ok u ∧ KTr z u ∧ tI u 386 11 = 6 := ⟨_, G, ok_i o 11 (rfl : ro 386 = 11) (iv_mono (iv_lit (lo := 6) (hi := 6) 6 (by decide) (by decide)) (by decide) (by decide)) (by decide), KTr.tr KTr.rf (KTr_i 11 (rfl : ro 386 = 11) (by decide)), sI_self⟩
  refine lv_iconst (v := 0) E.1 E.2.1 dX11_town_6 (by decide) ?_
  refine lv_istore_n (lv' := [(1, .int 0), (0, .ref (ad 386))]) E.1 E.2.1 dX11_town_7 rfl hl (by decide) rfl (fun ls hl => ?_)
  have LOOP8 : ∀ n : Nat, ∀ (zz6 : TS) (y5 : Int32) (H : Heap) (locs : List Loc) (ls : Array Slot), mG D A s H locs (wd K ad zz6) → Ok zz6 → KTr z zz6 → iv 0 96 y5 → iv 6 6 (tI zz6 386 11) → 96 < y5.toInt + (n : Int) → lv_has ls 2 [(1, .int y5), (0, .ref (ad 386))] → W p l e R s m args below meth c H locs 0 0 Q (F0 m 8 ls []) := by
    intro n
    induction n with
    | zero =>
      intro zz6 y5 H locs ls G oo7 kk8 b10 h11 m9 hl
      exact absurd m9 (by have := b10.1; have := b10.2; omega)
    | succ n ih8 =>
      intro zz6 y5 H locs ls G oo7 kk8 b10 h11 m9 hl
      refine lv_iload_n E.1 E.2.1 dX11_town_8 rfl (lv_at hl 0 rfl) ?_
      refine lv_bipush (v := 96) E.1 E.2.1 dX11_town_9 (by decide) ?_
      refine lv_icmp_ge (tgt := 27) E.1 E.2.1 dX11_town_11 (by decide) (fun c12 => ?_) (fun c12 => ?_)
      · skip
        have b13 : iv 96 96 y5 := le_r c12 (iv_lit (lo := 96) (hi := 96) 96 (by decide) (by decide)) b10 (by decide)
        refine lv_aload_n E.1 E.2.1 dX11_town_27 rfl (lv_at hl 1 rfl) ?_
        refine t_vi E G hl (v_readsT l D K ad zz6 oo7 h11) 11 (rfl : ro 386 = 11) (by decide) rfl rfl 0 rfl mw_code_X11_readsAll mw_ini_11 mw_ml_11_261 mw_inst_X11_readsAll mw_sel_X11_readsAll hd_X11_readsAll ⟨Nat.le_trans (by decide) hfr, Nat.le_trans (by decide) hlo⟩ rfl rfl rfl (Nat.le_of_ble_eq_true rfl) dX11_town_28 (fun r15 zz14 H locs hp16 G => ?_)
        obtain ⟨oo17, kk18, b19, h20⟩ := hp16
        have kk21 : KTr z zz14 := KTr.tr kk8 kk18
        refine lv_if_ne (tgt := 42) E.1 E.2.1 dX11_town_31 (by decide) (fun c22 => ?_) (fun c22 => ?_)
        · skip
          have b23 : iv 1 1 r15 := ne_lo c22 b19 (by decide) (by decide)
          refine lv_iconst (v := 0) E.1 E.2.1 dX11_town_42 (by decide) ?_
          refine lv_istore_n (lv' := [(1, .int 0), (0, .ref (ad 386))]) E.1 E.2.1 dX11_town_43 rfl hl (by decide) rfl (fun ls hl => ?_)
          have LOOP44 : ∀ n : Nat, ∀ (zz25 : TS) (y24 : Int32) (H : Heap) (locs : List Loc) (ls : Array Slot), mG D A s H locs (wd K ad zz25) → Ok zz25 → KTr z zz25 → iv 0 127 y24 → 127 < y24.toInt + (n : Int) → lv_has ls 2 [(1, .int y24), (0, .ref (ad 386))] → W p l e R s m args below meth c H locs 0 0 Q (F0 m 44 ls []) := by
            intro n
            induction n with
            | zero =>
              intro zz25 y24 H locs ls G oo26 kk27 b29 m28 hl
              exact absurd m28 (by have := b29.1; have := b29.2; omega)
            | succ n ih44 =>
              intro zz25 y24 H locs ls G oo26 kk27 b29 m28 hl
              refine lv_iload_n E.1 E.2.1 dX11_town_44 rfl (lv_at hl 0 rfl) ?_
              refine lv_bipush (v := 127) E.1 E.2.1 dX11_town_45 (by decide) ?_
              refine lv_icmp_ge (tgt := 78) E.1 E.2.1 dX11_town_47 (by decide) (fun c30 => ?_) (fun c30 => ?_)
              · skip
                have b31 : iv 127 127 y24 := le_r c30 (iv_lit (lo := 127) (hi := 127) 127 (by decide) (by decide)) b29 (by decide)
                refine lv_aload_n E.1 E.2.1 dX11_town_78 rfl (lv_at hl 1 rfl) ?_
                refine t_vv E G hl (v_begins l D K ad zz25 oo26) 11 (rfl : ro 386 = 11) (by decide) rfl rfl 0 rfl mw_code_X11_begins mw_ini_11 mw_ml_11_264 mw_inst_X11_begins mw_sel_X11_begins hd_X11_begins ⟨Nat.le_trans (by decide) hfr, Nat.le_trans (by decide) hlo⟩ rfl rfl rfl (Nat.le_of_ble_eq_true rfl) dX11_town_79 (fun zz32 H locs hp34 G => ?_)
                obtain ⟨oo35, kk36⟩ := hp34
                have kk37 : KTr z zz32 := KTr.tr kk27 (KM.tr_ kk36)
                refine lv_aload_n E.1 E.2.1 dX11_town_82 rfl (lv_at hl 1 rfl) ?_
                refine lv_iconst (v := 0) E.1 E.2.1 dX11_town_83 (by decide) ?_
                refine t_puti E G 11 26 (rfl : ro 386 = 11) (C := RX11) (T := TX11) (N := 37) rfl (by decide) (by decide) (by decide) rfl rfl mw_fl_11_267 rfl dX11_town_84 (fun H locs G => ?_)
                obtain ⟨zz38, G, oo39, kk40, h41⟩ : ∃ u : TS, mG D A s H locs (wd K ad u) ∧ Ok u ∧ KTr z u ∧ tI u 386 26 = 0 := ⟨_, G, ok_i oo35 11 (rfl : ro 386 = 11) (iv_mono (iv_lit (lo := 0) (hi := 0) 0 (by decide) (by decide)) (by decide) (by decide)) (by decide), KTr.tr kk37 (KTr_i 11 (rfl : ro 386 = 11) (by decide)), sI_self⟩
                refine lv_aload_n E.1 E.2.1 dX11_town_87 rfl (lv_at hl 1 rfl) ?_
                refine t_get E G 11 20 (rfl : ro 386 = 11) (C := RX11) (T := TX11) (N := 37) rfl (by decide) (by decide) (by decide) mw_fl_11_39 (v := .ref (ad 396)) (fvl_o (n := 10) rfl) dX11_town_88 ?_
                refine lv_iconst (v := 4) E.1 E.2.1 dX11_town_91 (by decide) ?_
                refine t_iald E G 54 (rfl : ro 396 = 54) (by decide) (by decide) rfl (n := 127) rfl (by unfold vp_in; decide) dX11_town_92 ?_
                refine lv_topi (fun v42 e43 => ?_)
                have b44 : iv 0 5 v42 := by rw [e43]; exact iv_mono (oo39.a 54 (rfl : ro 396 = 54) _) (by decide +kernel) (by decide +kernel)
                exact RET G ⟨oo39, kk40⟩ rfl dX11_town_93
              · skip
                have b45 : iv 0 126 y24 := lt_l (Int32.not_le.mp c30) b29 (iv_lit (lo := 127) (hi := 127) 127 (by decide) (by decide)) (by decide)
                refine lv_aload_n E.1 E.2.1 dX11_town_50 rfl (lv_at hl 1 rfl) ?_
                refine t_get E G 11 20 (rfl : ro 386 = 11) (C := RX11) (T := TX11) (N := 37) rfl (by decide) (by decide) (by decide) mw_fl_11_39 (v := .ref (ad 396)) (fvl_o (n := 10) rfl) dX11_town_51 ?_
                refine lv_iload_n E.1 E.2.1 dX11_town_54 rfl (lv_at hl 0 rfl) ?_
                refine lv_iload_n E.1 E.2.1 dX11_town_55 rfl (lv_at hl 0 rfl) ?_
                refine lv_bipush (v := 96) E.1 E.2.1 dX11_town_56 (by decide) ?_
                refine lv_icmp_ge (tgt := 70) E.1 E.2.1 dX11_town_58 (by decide) (fun c46 => ?_) (fun c46 => ?_)
                · skip
                  have b47 : iv 96 126 y24 := le_r c46 (iv_lit (lo := 96) (hi := 96) 96 (by decide) (by decide)) b45 (by decide)
                  refine lv_iconst (v := 0) E.1 E.2.1 dX11_town_70 (by decide) ?_
                  refine t_iast E G 54 (rfl : ro 396 = 54) (by decide) (by decide) rfl (n := 127) rfl (iv_vp b47 (by decide) (by decide)) dX11_town_71 (fun H locs G => ?_)
                  obtain ⟨zz48, G, oo49, kk50⟩ : ∃ u : TS, mG D A s H locs (wd K ad u) ∧ Ok u ∧ KTr z u := ⟨_, G, ok_u oo26 54 (rfl : ro 396 = 54) (wr1 0 1 96 126 (iv_lit (lo := 0) (hi := 0) 0 (by decide) (by decide)) b47 (by omega) (by decide +kernel)) (by decide), KTr.tr kk27 (KTr_r 54 (rfl : ro 396 = 54) (by decide))⟩
                  obtain ⟨v51, e52⟩ : ∃ w : Int32, w = y24 + (1 : Int32) := ⟨_, rfl⟩
                  refine lv_iinc (v := v51) (lv' := [(1, .int v51), (0, .ref (ad 386))]) E.1 E.2.1 dX11_town_72 hl (k := 0) rfl (by rw [e52]; rfl) (by decide) rfl (fun ls hl => ?_)
                  have b53 : iv 97 127 v51 := by rw [e52]; exact iv_add b47 (iv_lit (lo := 1) (hi := 1) 1 (by decide) (by decide)) (by decide) (by decide) (by decide) (by decide)
                  have t54 : v51.toInt = y24.toInt + 1 := by rw [e52]; exact ti_addc 1 (by decide) b47 (by decide) (by decide)
                  refine lv_goto (tgt := 44) E.1 E.2.1 dX11_town_75 (by decide) ?_
                  exact ih44 zz48 v51 H locs ls G oo49 kk50 (iv_mono b53 (by decide) (by decide)) (by have := t54; have := m28; omega) (lv_sub hl [0, 1] rfl)
                · skip
                  have b55 : iv 0 95 y24 := lt_l (Int32.not_le.mp c46) b45 (iv_lit (lo := 96) (hi := 96) 96 (by decide) (by decide)) (by decide)
                  refine lv_aload_n E.1 E.2.1 dX11_town_61 rfl (lv_at hl 1 rfl) ?_
                  refine t_get E G 11 7 (rfl : ro 386 = 11) (C := RX11) (T := TX11) (N := 37) rfl (by decide) (by decide) (by decide) mw_fl_11_26 (v := .ref (ad 392)) (fvl_o (n := 6) rfl) dX11_town_62 ?_
                  refine lv_iload_n E.1 E.2.1 dX11_town_65 rfl (lv_at hl 0 rfl) ?_
                  refine t_iald E G 50 (rfl : ro 392 = 50) (by decide) (by decide) rfl (n := 96) rfl (iv_vp b55 (by decide) (by decide)) dX11_town_66 ?_
                  refine lv_topi (fun v56 e57 => ?_)
                  refine lv_goto (tgt := 71) E.1 E.2.1 dX11_town_67 (by decide) ?_
                  refine t_iast E G 54 (rfl : ro 396 = 54) (by decide) (by decide) rfl (n := 127) rfl (iv_vp b55 (by decide) (by decide)) dX11_town_71 (fun H locs G => ?_)
                  obtain ⟨zz58, G, oo59, kk60⟩ : ∃ u : TS, mG D A s H locs (wd K ad u) ∧ Ok u ∧ KTr z u := ⟨_, G, ok_u oo26 54 (rfl : ro 396 = 54) (cp1 0 1 0 1 0 95 (show iv (alo 50 (y24 : Int32).toNatClampNeg) (ahi 50 (y24 : Int32).toNatClampNeg) v56 by rw [e57]; exact oo26.a 50 (rfl : ro 392 = 50) _) b55 (by omega) (by omega) (by decide +kernel)) (by decide), KTr.tr kk27 (KTr_r 54 (rfl : ro 396 = 54) (by decide))⟩
                  obtain ⟨v61, e62⟩ : ∃ w : Int32, w = y24 + (1 : Int32) := ⟨_, rfl⟩
                  refine lv_iinc (v := v61) (lv' := [(1, .int v61), (0, .ref (ad 386))]) E.1 E.2.1 dX11_town_72 hl (k := 0) rfl (by rw [e62]; rfl) (by decide) rfl (fun ls hl => ?_)
                  have b63 : iv 1 96 v61 := by rw [e62]; exact iv_add b55 (iv_lit (lo := 1) (hi := 1) 1 (by decide) (by decide)) (by decide) (by decide) (by decide) (by decide)
                  have t64 : v61.toInt = y24.toInt + 1 := by rw [e62]; exact ti_addc 1 (by decide) b55 (by decide) (by decide)
                  refine lv_goto (tgt := 44) E.1 E.2.1 dX11_town_75 (by decide) ?_
                  exact ih44 zz58 v61 H locs ls G oo59 kk60 (iv_mono b63 (by decide) (by decide)) (by have := t64; have := m28; omega) (lv_sub hl [0, 1] rfl)
          exact LOOP44 128 zz14 0 H locs ls G oo17 kk21 (iv_mono (iv_lit (lo := 0) (hi := 0) 0 (by decide) (by decide)) (by decide) (by decide)) (by have := (iv_lit (lo := 0) (hi := 0) 0 (by decide) (by decide)).1; omega) (lv_sub hl [0, 1] rfl)
        · skip
          have b65 : iv 0 0 r15 := iv_eq c22 (iv_lit (lo := 0) (hi := 0) 0 (by decide) (by decide))
          refine lv_bipush (v := (-2)) E.1 E.2.1 dX11_town_34 (by decide) ?_
          refine lv_aload_n E.1 E.2.1 dX11_town_36 rfl (lv_at hl 1 rfl) ?_
          refine t_get E G 11 9 (rfl : ro 386 = 11) (C := RX11) (T := TX11) (N := 37) rfl (by decide) (by decide) (by decide) mw_fl_11_90 (fvl_i rfl) dX11_town_37 ?_
          refine lv_topi (fun v66 e67 => ?_)
          refine lv_isub E.1 E.2.1 dX11_town_40 ?_
          refine lv_topi (fun v68 e69 => ?_)
          exact RET G ⟨oo17, kk21⟩ rfl dX11_town_41
      · skip
        have b70 : iv 0 95 y5 := lt_l (Int32.not_le.mp c12) b10 (iv_lit (lo := 96) (hi := 96) 96 (by decide) (by decide)) (by decide)
        refine lv_aload_n E.1 E.2.1 dX11_town_14 rfl (lv_at hl 1 rfl) ?_
        refine t_get E G 11 7 (rfl : ro 386 = 11) (C := RX11) (T := TX11) (N := 37) rfl (by decide) (by decide) (by decide) mw_fl_11_26 (v := .ref (ad 392)) (fvl_o (n := 6) rfl) dX11_town_15 ?_
        refine lv_iload_n E.1 E.2.1 dX11_town_18 rfl (lv_at hl 0 rfl) ?_
        refine lv_iconst (v := 0) E.1 E.2.1 dX11_town_19 (by decide) ?_
        refine t_iast E G 50 (rfl : ro 392 = 50) (by decide) (by decide) rfl (n := 96) rfl (iv_vp b70 (by decide) (by decide)) dX11_town_20 (fun H locs G => ?_)
        obtain ⟨zz71, G, oo72, kk73, h74⟩ : ∃ u : TS, mG D A s H locs (wd K ad u) ∧ Ok u ∧ KTr z u ∧ tI u 386 11 = (tI zz6 386 11) := ⟨_, G, ok_u oo7 50 (rfl : ro 392 = 50) (wr1 0 1 0 95 (iv_lit (lo := 0) (hi := 0) 0 (by decide) (by decide)) b70 (by omega) (by decide +kernel)) (by decide), KTr.tr kk8 (KTr_r 50 (rfl : ro 392 = 50) (by decide)), rfl⟩
        obtain ⟨v75, e76⟩ : ∃ w : Int32, w = y5 + (1 : Int32) := ⟨_, rfl⟩
        refine lv_iinc (v := v75) (lv' := [(1, .int v75), (0, .ref (ad 386))]) E.1 E.2.1 dX11_town_21 hl (k := 0) rfl (by rw [e76]; rfl) (by decide) rfl (fun ls hl => ?_)
        have b77 : iv 1 96 v75 := by rw [e76]; exact iv_add b70 (iv_lit (lo := 1) (hi := 1) 1 (by decide) (by decide)) (by decide) (by decide) (by decide) (by decide)
        have t78 : v75.toInt = y5.toInt + 1 := by rw [e76]; exact ti_addc 1 (by decide) b70 (by decide) (by decide)
        refine lv_goto (tgt := 8) E.1 E.2.1 dX11_town_24 (by decide) ?_
        exact ih8 zz71 v75 H locs ls G oo72 kk73 (iv_mono b77 (by decide) (by decide)) (by rw [h74]; exact h11) (by have := t78; have := m9; omega) (lv_sub hl [0, 1] rfl)
  exact LOOP8 97 zz1 0 H locs ls G oo2 kk3 (iv_mono (iv_lit (lo := 0) (hi := 0) 0 (by decide) (by decide)) (by decide) (by decide)) (by rw [h4]; exact iv_mono (iv_lit (lo := 6) (hi := 6) 6 (by decide) (by decide)) (by decide) (by decide)) (by have := (iv_lit (lo := 0) (hi := 0) 0 (by decide) (by decide)).1; omega) (lv_sub hl [0, 1] rfl)
