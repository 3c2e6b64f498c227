theorem mw_code_X11_areNotesSo : (Cond.code yX11_areNotesSo cX11_areNotesSo 3 (some .boolean) : Cond) ∈ cw := cw_of (List.mem_append_right _ (List.mem_append_right _ (List.mem_append_right _ (List.mem_append_right _ (List.mem_append_right _ (List.mem_append_right _ (List.mem_append_right _ (List.mem_append_left _ (List.mem_of_getElem? (i := 200) rfl))))))))) (by decide +kernel)
theorem mw_inst_X11_areNotesSo : (Cond.instanceMethod yX11_areNotesSo : Cond) ∈ cw := cw_of (List.mem_append_right _ (List.mem_append_right _ (List.mem_append_right _ (List.mem_append_right _ (List.mem_append_right _ (List.mem_append_right _ (List.mem_append_right _ (List.mem_append_left _ (List.mem_of_getElem? (i := 199) (by decide +kernel)))))))))) (by decide +kernel)
theorem mw_ml_11_431 : (Cond.methodLink RX11 431 yX11_areNotesSo : Cond) ∈ cw := cw_of (List.mem_append_right _ (List.mem_append_right _ (List.mem_append_right _ (List.mem_append_right _ (List.mem_append_right _ (List.mem_append_right _ (List.mem_append_right _ (List.mem_append_left _ (List.mem_of_getElem? (i := 197) (by decide +kernel)))))))))) (by decide +kernel)
theorem mw_sel_X11_areNotesSo : (Cond.selects RX11 yX11_areNotesSo yX11_areNotesSo : Cond) ∈ cw := cw_of (List.mem_append_left _ (List.mem_of_getElem? (i := 121) (by decide +kernel))) (by decide +kernel)
theorem dX11_areAllSo_0 : decode cX11_areAllSo 0 = .ok (.iconst 1, 1) := by decide +kernel
theorem dX11_areAllSo_1 : decode cX11_areAllSo 1 = .ok (.istore_n 3, 1) := by decide +kernel
theorem dX11_areAllSo_2 : decode cX11_areAllSo 2 = .ok (.iconst 0, 1) := by decide +kernel
theorem dX11_areAllSo_3 : decode cX11_areAllSo 3 = .ok (.istore 4, 2) := by decide +kernel
theorem dX11_areAllSo_5 : decode cX11_areAllSo 5 = .ok (.iload 4, 2) := by decide +kernel
theorem dX11_areAllSo_7 : decode cX11_areAllSo 7 = .ok (.bipush 60, 2) := by decide +kernel
theorem dX11_areAllSo_9 : decode cX11_areAllSo 9 = .ok (.if_icmp .gt 76, 3) := by decide +kernel
theorem dX11_areAllSo_12 : decode cX11_areAllSo 12 = .ok (.aload_n 0, 1) := by decide +kernel
theorem dX11_areAllSo_13 : decode cX11_areAllSo 13 = .ok (.invokevirtual 356, 3) := by decide +kernel
theorem dX11_areAllSo_16 : decode cX11_areAllSo 16 = .ok (.pop, 1) := by decide +kernel
theorem dX11_areAllSo_17 : decode cX11_areAllSo 17 = .ok (.iload_n 3, 1) := by decide +kernel
theorem dX11_areAllSo_18 : decode cX11_areAllSo 18 = .ok (.ifCond .eq 16, 3) := by decide +kernel
theorem dX11_areAllSo_21 : decode cX11_areAllSo 21 = .ok (.aload_n 0, 1) := by decide +kernel
theorem dX11_areAllSo_22 : decode cX11_areAllSo 22 = .ok (.iload 4, 2) := by decide +kernel
theorem dX11_areAllSo_24 : decode cX11_areAllSo 24 = .ok (.invokevirtual 431, 3) := by decide +kernel
theorem dX11_areAllSo_27 : decode cX11_areAllSo 27 = .ok (.ifCond .eq 7, 3) := by decide +kernel
theorem dX11_areAllSo_30 : decode cX11_areAllSo 30 = .ok (.iconst 1, 1) := by decide +kernel
theorem dX11_areAllSo_31 : decode cX11_areAllSo 31 = .ok (.goto 4, 3) := by decide +kernel
theorem dX11_areAllSo_34 : decode cX11_areAllSo 34 = .ok (.iconst 0, 1) := by decide +kernel
theorem dX11_areAllSo_35 : decode cX11_areAllSo 35 = .ok (.istore_n 3, 1) := by decide +kernel
theorem dX11_areAllSo_36 : decode cX11_areAllSo 36 = .ok (.iconst 0, 1) := by decide +kernel
theorem dX11_areAllSo_37 : decode cX11_areAllSo 37 = .ok (.istore 5, 2) := by decide +kernel
theorem dX11_areAllSo_39 : decode cX11_areAllSo 39 = .ok (.iload 5, 2) := by decide +kernel
theorem dX11_areAllSo_41 : decode cX11_areAllSo 41 = .ok (.aload_n 0, 1) := by decide +kernel
theorem dX11_areAllSo_42 : decode cX11_areAllSo 42 = .ok (.getfield 39, 3) := by decide +kernel
theorem dX11_areAllSo_45 : decode cX11_areAllSo 45 = .ok (.iconst 4, 1) := by decide +kernel
theorem dX11_areAllSo_46 : decode cX11_areAllSo 46 = .ok (.iaload, 1) := by decide +kernel
theorem dX11_areAllSo_47 : decode cX11_areAllSo 47 = .ok (.if_icmp .ge 32, 3) := by decide +kernel
theorem dX11_areAllSo_50 : decode cX11_areAllSo 50 = .ok (.iload 4, 2) := by decide +kernel
theorem dX11_areAllSo_52 : decode cX11_areAllSo 52 = .ok (.iload_n 2, 1) := by decide +kernel
theorem dX11_areAllSo_53 : decode cX11_areAllSo 53 = .ok (.if_icmp .ne 26, 3) := by decide +kernel
theorem dX11_areAllSo_56 : decode cX11_areAllSo 56 = .ok (.aload_n 0, 1) := by decide +kernel
theorem dX11_areAllSo_57 : decode cX11_areAllSo 57 = .ok (.getfield 68, 3) := by decide +kernel
theorem dX11_areAllSo_60 : decode cX11_areAllSo 60 = .ok (.iconst 5, 1) := by decide +kernel
theorem dX11_areAllSo_61 : decode cX11_areAllSo 61 = .ok (.iload_n 1, 1) := by decide +kernel
theorem dX11_areAllSo_62 : decode cX11_areAllSo 62 = .ok (.imul, 1) := by decide +kernel
theorem dX11_areAllSo_63 : decode cX11_areAllSo 63 = .ok (.iload 5, 2) := by decide +kernel
theorem dX11_areAllSo_65 : decode cX11_areAllSo 65 = .ok (.iadd, 1) := by decide +kernel
theorem dX11_areAllSo_66 : decode cX11_areAllSo 66 = .ok (.aload_n 0, 1) := by decide +kernel
theorem dX11_areAllSo_67 : decode cX11_areAllSo 67 = .ok (.iload 5, 2) := by decide +kernel
theorem dX11_areAllSo_69 : decode cX11_areAllSo 69 = .ok (.invokevirtual 291, 3) := by decide +kernel
theorem dX11_areAllSo_72 : decode cX11_areAllSo 72 = .ok (.iastore, 1) := by decide +kernel
theorem dX11_areAllSo_73 : decode cX11_areAllSo 73 = .ok (.iinc 5 1, 3) := by decide +kernel
theorem dX11_areAllSo_76 : decode cX11_areAllSo 76 = .ok (.goto (-37), 3) := by decide +kernel
theorem dX11_areAllSo_79 : decode cX11_areAllSo 79 = .ok (.iinc 4 1, 3) := by decide +kernel
theorem dX11_areAllSo_82 : decode cX11_areAllSo 82 = .ok (.goto (-77), 3) := by decide +kernel
theorem dX11_areAllSo_85 : decode cX11_areAllSo 85 = .ok (.iload_n 3, 1) := by decide +kernel
theorem dX11_areAllSo_86 : decode cX11_areAllSo 86 = .ok (.ireturn, 1) := by decide +kernel
theorem hd_X11_areNotesSo : yX11_areNotesSo.cls ≠ "java/lang/invoke/MethodHandle" ∧ yX11_areNotesSo.cls ≠ "java/lang/invoke/VarHandle" ∧ (parseMethodDescriptor yX11_areNotesSo.desc).map (fun d => d.parameters.length) = some 1 := ⟨by decide +kernel, by decide +kernel, by decide +kernel⟩
set_option maxHeartbeats 4000000 in
set_option maxRecDepth 100000 in
theorem v_areAllSo (l : Launch) (D : va_G) (K : Nat → ClassId) (ad : Nat → Nat) (z : TS) (o : Ok z) (x1 : Int32) (bx1 : iv 0 6 x1) (x2 : Int32) (wf : WFc z) : cI l yX11_areAllSo cX11_areAllSo 6 .boolean ({ frames := 7, cells := 0, slots := 0, locals := 168 }) D K ad z [.ref (ad 386), .int x1, .int x2] (fun r u => Ok u ∧ KM z u ∧ iv 0 1 r) := by
  refine t_enterI (by decide) (Nat.le_of_ble_eq_true rfl) rfl rfl ?_
  intro p e s m args below meth c A R Q H locs ls E hfr hlo RET G hl
  have E : mE p s m meth c cX11_areAllSo args 6 RX11 D K A := E
  have hl : lv_has ls 6 [(0, .ref (ad 386)), (1, .int x1), (2, .int x2)] := hl
  refine lv_iconst (v := 1) E.1 E.2.1 dX11_areAllSo_0 (by decide) ?_
  refine lv_istore_n (lv' := [(3, .int 1), (0, .ref (ad 386)), (1, .int x1), (2, .int x2)]) E.1 E.2.1 dX11_areAllSo_1 rfl hl (by decide) rfl (fun ls hl => ?_)
  refine lv_iconst (v := 0) E.1 E.2.1 dX11_areAllSo_2 (by decide) ?_
  refine lv_istore (lv' := [(4, .int 0), (3, .int 1), (0, .ref (ad 386)), (1, .int x1), (2, .int x2)]) E.1 E.2.1 dX11_areAllSo_3 hl (by decide) rfl (fun ls hl => ?_)
  have LOOP5 : ∀ n : Nat, ∀ (zz3 : TS) (y1 : Int32) (y2 : Int32) (H : Heap) (locs : List Loc) (ls : Array Slot), mG D A s H locs (wd K ad zz3) → Ok zz3 → KM z zz3 → iv 0 61 y1 → iv 0 1 y2 → 61 < y1.toInt + (n : Int) → lv_has ls 6 [(4, .int y1), (3, .int y2), (0, .ref (ad 386)), (1, .int x1), (2, .int x2)] → W p l e R s m args below meth c H locs 0 0 Q (F0 m 5 ls []) := by
    intro n
    induction n with
    | zero =>
      intro zz3 y1 y2 H locs ls G oo4 kk5 b7 b8 m6 hl
      exact absurd m6 (by have := b7.1; have := b7.2; omega)
    | succ n ih5 =>
      intro zz3 y1 y2 H locs ls G oo4 kk5 b7 b8 m6 hl
      refine lv_iload E.1 E.2.1 dX11_areAllSo_5 (lv_at hl 0 rfl) ?_
      refine lv_bipush (v := 60) E.1 E.2.1 dX11_areAllSo_7 (by decide) ?_
      refine lv_icmp_gt (tgt := 85) E.1 E.2.1 dX11_areAllSo_9 (by decide) (fun c9 => ?_) (fun c9 => ?_)
      · skip
        have b10 : iv 61 61 y1 := lt_r c9 (iv_lit (lo := 60) (hi := 60) 60 (by decide) (by decide)) b7 (by decide)
        refine lv_iload_n E.1 E.2.1 dX11_areAllSo_85 rfl (lv_at hl 1 rfl) ?_
        exact RET G ⟨oo4, kk5, (iv_mono b8 (by decide) (by decide))⟩ (nar_b b8) dX11_areAllSo_86
      · skip
        have b11 : iv 0 60 y1 := le_l (Int32.not_lt.mp c9) b7 (iv_lit (lo := 60) (hi := 60) 60 (by decide) (by decide)) (by decide)
        refine lv_aload_n E.1 E.2.1 dX11_areAllSo_12 rfl (lv_at hl 2 rfl) ?_
        refine t_vi E G hl (v_passes l D K ad zz3 oo4 (wf_ka wf kk5.2.1 rfl rfl rfl rfl)) 11 (rfl : ro 386 = 11) (by decide) rfl rfl 0 rfl mw_code_X11_passes mw_ini_11 mw_ml_11_356 mw_inst_X11_passes mw_sel_X11_passes hd_X11_passes ⟨Nat.le_trans (by decide) hfr, Nat.le_trans (by decide) hlo⟩ rfl rfl rfl (Nat.le_of_ble_eq_true rfl) dX11_areAllSo_13 (fun r13 zz12 H locs hp14 G => ?_)
        obtain ⟨oo15, kk16⟩ := hp14
        have kk17 : KM z zz12 := KF.tr kk5 kk16
        refine lv_pop E.1 E.2.1 dX11_areAllSo_16 rfl ?_
        refine lv_iload_n E.1 E.2.1 dX11_areAllSo_17 rfl (lv_at hl 1 rfl) ?_
        refine lv_if_eq (tgt := 34) E.1 E.2.1 dX11_areAllSo_18 (by decide) (fun c18 => ?_) (fun c18 => ?_)
        · skip
          have b19 : iv 0 0 y2 := iv_eq c18 (iv_lit (lo := 0) (hi := 0) 0 (by decide) (by decide))
          refine lv_iconst (v := 0) E.1 E.2.1 dX11_areAllSo_34 (by decide) ?_
          refine lv_istore_n (lv' := [(3, .int 0), (4, .int y1), (0, .ref (ad 386)), (1, .int x1), (2, .int x2)]) E.1 E.2.1 dX11_areAllSo_35 rfl hl (by decide) rfl (fun ls hl => ?_)
          refine lv_iconst (v := 0) E.1 E.2.1 dX11_areAllSo_36 (by decide) ?_
          refine lv_istore (lv' := [(5, .int 0), (3, .int 0), (4, .int y1), (0, .ref (ad 386)), (1, .int x1), (2, .int x2)]) E.1 E.2.1 dX11_areAllSo_37 hl (by decide) rfl (fun ls hl => ?_)
          have LOOP39 : ∀ n : Nat, ∀ (zz21 : TS) (y20 : Int32) (H : Heap) (locs : List Loc) (ls : Array Slot), mG D A s H locs (wd K ad zz21) → Ok zz21 → KM z zz21 → iv 0 5 y20 → 5 < y20.toInt + (n : Int) → lv_has ls 6 [(5, .int y20), (3, .int 0), (4, .int y1), (0, .ref (ad 386)), (1, .int x1), (2, .int x2)] → W p l e R s m args below meth c H locs 0 0 Q (F0 m 39 ls []) := by
            intro n
            induction n with
            | zero =>
              intro zz21 y20 H locs ls G oo22 kk23 b25 m24 hl
              exact absurd m24 (by have := b25.1; have := b25.2; omega)
            | succ n ih39 =>
              intro zz21 y20 H locs ls G oo22 kk23 b25 m24 hl
              refine lv_iload E.1 E.2.1 dX11_areAllSo_39 (lv_at hl 0 rfl) ?_
              refine lv_aload_n E.1 E.2.1 dX11_areAllSo_41 rfl (lv_at hl 3 rfl) ?_
              refine t_get E G 11 20 (rfl : ro 386 = 11) (C := RX11) (T := TX11) (N := 37) rfl (by decide) (by decide) (by decide) mw_fl_11_39 (v := .ref (ad 396)) (fvl_o (n := 10) rfl) dX11_areAllSo_42 ?_
              refine lv_iconst (v := 4) E.1 E.2.1 dX11_areAllSo_45 (by decide) ?_
              refine t_iald E G 54 (rfl : ro 396 = 54) (by decide) (by decide) rfl (n := 127) rfl (by unfold vp_in; decide) dX11_areAllSo_46 ?_
              refine lv_topi (fun v26 e27 => ?_)
              have b28 : iv 0 5 v26 := by rw [e27]; exact iv_mono (oo22.a 54 (rfl : ro 396 = 54) _) (by decide +kernel) (by decide +kernel)
              refine lv_icmp_ge (tgt := 79) E.1 E.2.1 dX11_areAllSo_47 (by decide) (fun c29 => ?_) (fun c29 => ?_)
              · skip
                obtain ⟨v30, e31⟩ : ∃ w : Int32, w = y1 + (1 : Int32) := ⟨_, rfl⟩
                refine lv_iinc (v := v30) (lv' := [(4, .int v30), (5, .int y20), (3, .int 0), (0, .ref (ad 386)), (1, .int x1), (2, .int x2)]) E.1 E.2.1 dX11_areAllSo_79 hl (k := 2) rfl (by rw [e31]; rfl) (by decide) rfl (fun ls hl => ?_)
                have b32 : iv 1 61 v30 := by rw [e31]; exact iv_add b11 (iv_lit (lo := 1) (hi := 1) 1 (by decide) (by decide)) (by decide) (by decide) (by decide) (by decide)
                have t33 : v30.toInt = y1.toInt + 1 := by rw [e31]; exact ti_addc 1 (by decide) b11 (by decide) (by decide)
                refine lv_goto (tgt := 5) E.1 E.2.1 dX11_areAllSo_82 (by decide) ?_
                exact ih5 zz21 v30 0 H locs ls G oo22 kk23 (iv_mono b32 (by decide) (by decide)) (iv_mono (iv_lit (lo := 0) (hi := 0) 0 (by decide) (by decide)) (by decide) (by decide)) (by have := t33; have := m6; omega) (lv_sub hl [0, 2, 3, 4, 5] rfl)
              · skip
                have b34 : iv 0 4 y20 := lt_l (Int32.not_le.mp c29) b25 b28 (by decide)
                have b35 : iv 1 5 v26 := lt_r (Int32.not_le.mp c29) b25 b28 (by decide)
                refine lv_iload E.1 E.2.1 dX11_areAllSo_50 (lv_at hl 2 rfl) ?_
                refine lv_iload_n E.1 E.2.1 dX11_areAllSo_52 rfl (lv_at hl 5 rfl) ?_
                refine lv_icmp_ne (tgt := 79) E.1 E.2.1 dX11_areAllSo_53 (by decide) (fun c36 => ?_) (fun c36 => ?_)
                · skip
                  obtain ⟨v37, e38⟩ : ∃ w : Int32, w = y1 + (1 : Int32) := ⟨_, rfl⟩
                  refine lv_iinc (v := v37) (lv' := [(4, .int v37), (5, .int y20), (3, .int 0), (0, .ref (ad 386)), (1, .int x1), (2, .int x2)]) E.1 E.2.1 dX11_areAllSo_79 hl (k := 2) rfl (by rw [e38]; rfl) (by decide) rfl (fun ls hl => ?_)
                  have b39 : iv 1 61 v37 := by rw [e38]; exact iv_add b11 (iv_lit (lo := 1) (hi := 1) 1 (by decide) (by decide)) (by decide) (by decide) (by decide) (by decide)
                  have t40 : v37.toInt = y1.toInt + 1 := by rw [e38]; exact ti_addc 1 (by decide) b11 (by decide) (by decide)
                  refine lv_goto (tgt := 5) E.1 E.2.1 dX11_areAllSo_82 (by decide) ?_
                  exact ih5 zz21 v37 0 H locs ls G oo22 kk23 (iv_mono b39 (by decide) (by decide)) (iv_mono (iv_lit (lo := 0) (hi := 0) 0 (by decide) (by decide)) (by decide) (by decide)) (by have := t40; have := m6; omega) (lv_sub hl [0, 2, 3, 4, 5] rfl)
                · skip
                  refine lv_aload_n E.1 E.2.1 dX11_areAllSo_56 rfl (lv_at hl 3 rfl) ?_
                  refine t_get E G 11 31 (rfl : ro 386 = 11) (C := RX11) (T := TX11) (N := 37) rfl (by decide) (by decide) (by decide) mw_fl_11_68 (v := .ref (ad 404)) (fvl_o (n := 18) rfl) dX11_areAllSo_57 ?_
                  refine lv_iconst (v := 5) E.1 E.2.1 dX11_areAllSo_60 (by decide) ?_
                  refine lv_iload_n E.1 E.2.1 dX11_areAllSo_61 rfl (lv_at hl 4 rfl) ?_
                  refine lv_imul E.1 E.2.1 dX11_areAllSo_62 ?_
                  refine lv_topi (fun v41 e42 => ?_)
                  have b43 : iv 0 30 v41 := by rw [e42]; exact iv_mulc' bx1 5 (by decide) (by decide) (by decide) (by decide) (by decide) (by decide)
                  have l44 : v41.toInt = 0 + 5 * x1.toInt := (show v41.toInt = 5 * x1.toInt by rw [e42]; exact ti_cmul 5 (by decide) (by decide) bx1 (by decide) (by decide)).trans (by omega)
                  refine lv_iload E.1 E.2.1 dX11_areAllSo_63 (lv_at hl 0 rfl) ?_
                  refine lv_iadd E.1 E.2.1 dX11_areAllSo_65 ?_
                  refine lv_topi (fun v45 e46 => ?_)
                  have b47 : iv 0 34 v45 := by rw [e46]; exact iv_add b43 b34 (by decide) (by decide) (by decide) (by decide)
                  have l48 : v45.toInt = 0 + 5 * x1.toInt + 1 * y20.toInt := (show v45.toInt = v41.toInt + y20.toInt by rw [e46]; exact ti_addv b43 b34 (by decide) (by decide)).trans (by omega)
                  refine lv_aload_n E.1 E.2.1 dX11_areAllSo_66 rfl (lv_at hl 3 rfl) ?_
                  refine lv_iload E.1 E.2.1 dX11_areAllSo_67 (lv_at hl 0 rfl) ?_
                  refine t_vi E G hl (v_cornerOf l D K ad zz21 oo22 y20 (iv_mono b34 (by decide) (by decide))) 11 (rfl : ro 386 = 11) (by decide) rfl rfl 1 rfl mw_code_X11_cornerOf mw_ini_11 mw_ml_11_291 mw_inst_X11_cornerOf mw_sel_X11_cornerOf hd_X11_cornerOf ⟨Nat.le_trans (by decide) hfr, Nat.le_trans (by decide) hlo⟩ rfl rfl rfl (Nat.le_of_ble_eq_true rfl) dX11_areAllSo_69 (fun r50 zz49 H locs hp51 G => ?_)
                  obtain ⟨hz53, b52⟩ := hp51
                  rw [hz53] at G
                  refine t_iast E G 62 (rfl : ro 404 = 62) (by decide) (by decide) rfl (n := 35) rfl (iv_vp b47 (by decide) (by decide)) dX11_areAllSo_72 (fun H locs G => ?_)
                  obtain ⟨zz54, G, oo55, kk56⟩ : ∃ u : TS, mG D A s H locs (wd K ad u) ∧ Ok u ∧ KM z u := ⟨_, G, ok_u oo22 62 (rfl : ro 404 = 62) (wr_u (by decide) (iv_mono b52 (by decide) (by decide))) (by decide), KF.tr kk23 (KF_r 62 (rfl : ro 404 = 62) (by decide))⟩
                  obtain ⟨v57, e58⟩ : ∃ w : Int32, w = y20 + (1 : Int32) := ⟨_, rfl⟩
                  refine lv_iinc (v := v57) (lv' := [(5, .int v57), (3, .int 0), (4, .int y1), (0, .ref (ad 386)), (1, .int x1), (2, .int x2)]) E.1 E.2.1 dX11_areAllSo_73 hl (k := 0) rfl (by rw [e58]; rfl) (by decide) rfl (fun ls hl => ?_)
                  have b59 : iv 1 5 v57 := by rw [e58]; exact iv_add b34 (iv_lit (lo := 1) (hi := 1) 1 (by decide) (by decide)) (by decide) (by decide) (by decide) (by decide)
                  have t60 : v57.toInt = y20.toInt + 1 := by rw [e58]; exact ti_addc 1 (by decide) b34 (by decide) (by decide)
                  refine lv_goto (tgt := 39) E.1 E.2.1 dX11_areAllSo_76 (by decide) ?_
                  exact ih39 zz54 v57 H locs ls G oo55 kk56 (iv_mono b59 (by decide) (by decide)) (by have := t60; have := m24; omega) (lv_sub hl [0, 1, 2, 3, 4, 5] rfl)
          exact LOOP39 6 zz12 0 H locs ls G oo15 kk17 (iv_mono (iv_lit (lo := 0) (hi := 0) 0 (by decide) (by decide)) (by decide) (by decide)) (by have := (iv_lit (lo := 0) (hi := 0) 0 (by decide) (by decide)).1; omega) (lv_sub hl [0, 1, 2, 3, 4, 5] rfl)
        · skip
          have b61 : iv 1 1 y2 := ne_lo c18 b8 (by decide) (by decide)
          refine lv_aload_n E.1 E.2.1 dX11_areAllSo_21 rfl (lv_at hl 2 rfl) ?_
          refine lv_iload E.1 E.2.1 dX11_areAllSo_22 (lv_at hl 0 rfl) ?_
          refine t_vi E G hl (v_areNotesSo l D K ad zz12 oo15 y1) 11 (rfl : ro 386 = 11) (by decide) rfl rfl 1 rfl mw_code_X11_areNotesSo mw_ini_11 mw_ml_11_431 mw_inst_X11_areNotesSo mw_sel_X11_areNotesSo hd_X11_areNotesSo ⟨Nat.le_trans (by decide) hfr, Nat.le_trans (by decide) hlo⟩ rfl rfl rfl (Nat.le_of_ble_eq_true rfl) dX11_areAllSo_24 (fun r63 zz62 H locs hp64 G => ?_)
          obtain ⟨hz66, b65⟩ := hp64
          rw [hz66] at G
          refine lv_if_eq (tgt := 34) E.1 E.2.1 dX11_areAllSo_27 (by decide) (fun c67 => ?_) (fun c67 => ?_)
          · skip
            have b68 : iv 0 0 r63 := iv_eq c67 (iv_lit (lo := 0) (hi := 0) 0 (by decide) (by decide))
            refine lv_iconst (v := 0) E.1 E.2.1 dX11_areAllSo_34 (by decide) ?_
            refine lv_istore_n (lv' := [(3, .int 0), (4, .int y1), (0, .ref (ad 386)), (1, .int x1), (2, .int x2)]) E.1 E.2.1 dX11_areAllSo_35 rfl hl (by decide) rfl (fun ls hl => ?_)
            refine lv_iconst (v := 0) E.1 E.2.1 dX11_areAllSo_36 (by decide) ?_
            refine lv_istore (lv' := [(5, .int 0), (3, .int 0), (4, .int y1), (0, .ref (ad 386)), (1, .int x1), (2, .int x2)]) E.1 E.2.1 dX11_areAllSo_37 hl (by decide) rfl (fun ls hl => ?_)
            have LOOP39 : ∀ n : Nat, ∀ (zz70 : TS) (y69 : Int32) (H : Heap) (locs : List Loc) (ls : Array Slot), mG D A s H locs (wd K ad zz70) → Ok zz70 → KM z zz70 → iv 0 5 y69 → 5 < y69.toInt + (n : Int) → lv_has ls 6 [(5, .int y69), (3, .int 0), (4, .int y1), (0, .ref (ad 386)), (1, .int x1), (2, .int x2)] → W p l e R s m args below meth c H locs 0 0 Q (F0 m 39 ls []) := by
              intro n
              induction n with
              | zero =>
                intro zz70 y69 H locs ls G oo71 kk72 b74 m73 hl
                exact absurd m73 (by have := b74.1; have := b74.2; omega)
              | succ n ih39 =>
                intro zz70 y69 H locs ls G oo71 kk72 b74 m73 hl
                refine lv_iload E.1 E.2.1 dX11_areAllSo_39 (lv_at hl 0 rfl) ?_
                refine lv_aload_n E.1 E.2.1 dX11_areAllSo_41 rfl (lv_at hl 3 rfl) ?_
                refine t_get E G 11 20 (rfl : ro 386 = 11) (C := RX11) (T := TX11) (N := 37) rfl (by decide) (by decide) (by decide) mw_fl_11_39 (v := .ref (ad 396)) (fvl_o (n := 10) rfl) dX11_areAllSo_42 ?_
                refine lv_iconst (v := 4) E.1 E.2.1 dX11_areAllSo_45 (by decide) ?_
                refine t_iald E G 54 (rfl : ro 396 = 54) (by decide) (by decide) rfl (n := 127) rfl (by unfold vp_in; decide) dX11_areAllSo_46 ?_
                refine lv_topi (fun v75 e76 => ?_)
                have b77 : iv 0 5 v75 := by rw [e76]; exact iv_mono (oo71.a 54 (rfl : ro 396 = 54) _) (by decide +kernel) (by decide +kernel)
                refine lv_icmp_ge (tgt := 79) E.1 E.2.1 dX11_areAllSo_47 (by decide) (fun c78 => ?_) (fun c78 => ?_)
                · skip
                  obtain ⟨v79, e80⟩ : ∃ w : Int32, w = y1 + (1 : Int32) := ⟨_, rfl⟩
                  refine lv_iinc (v := v79) (lv' := [(4, .int v79), (5, .int y69), (3, .int 0), (0, .ref (ad 386)), (1, .int x1), (2, .int x2)]) E.1 E.2.1 dX11_areAllSo_79 hl (k := 2) rfl (by rw [e80]; rfl) (by decide) rfl (fun ls hl => ?_)
                  have b81 : iv 1 61 v79 := by rw [e80]; exact iv_add b11 (iv_lit (lo := 1) (hi := 1) 1 (by decide) (by decide)) (by decide) (by decide) (by decide) (by decide)
                  have t82 : v79.toInt = y1.toInt + 1 := by rw [e80]; exact ti_addc 1 (by decide) b11 (by decide) (by decide)
                  refine lv_goto (tgt := 5) E.1 E.2.1 dX11_areAllSo_82 (by decide) ?_
                  exact ih5 zz70 v79 0 H locs ls G oo71 kk72 (iv_mono b81 (by decide) (by decide)) (iv_mono (iv_lit (lo := 0) (hi := 0) 0 (by decide) (by decide)) (by decide) (by decide)) (by have := t82; have := m6; omega) (lv_sub hl [0, 2, 3, 4, 5] rfl)
                · skip
                  have b83 : iv 0 4 y69 := lt_l (Int32.not_le.mp c78) b74 b77 (by decide)
                  have b84 : iv 1 5 v75 := lt_r (Int32.not_le.mp c78) b74 b77 (by decide)
                  refine lv_iload E.1 E.2.1 dX11_areAllSo_50 (lv_at hl 2 rfl) ?_
                  refine lv_iload_n E.1 E.2.1 dX11_areAllSo_52 rfl (lv_at hl 5 rfl) ?_
                  refine lv_icmp_ne (tgt := 79) E.1 E.2.1 dX11_areAllSo_53 (by decide) (fun c85 => ?_) (fun c85 => ?_)
                  · skip
                    obtain ⟨v86, e87⟩ : ∃ w : Int32, w = y1 + (1 : Int32) := ⟨_, rfl⟩
                    refine lv_iinc (v := v86) (lv' := [(4, .int v86), (5, .int y69), (3, .int 0), (0, .ref (ad 386)), (1, .int x1), (2, .int x2)]) E.1 E.2.1 dX11_areAllSo_79 hl (k := 2) rfl (by rw [e87]; rfl) (by decide) rfl (fun ls hl => ?_)
                    have b88 : iv 1 61 v86 := by rw [e87]; exact iv_add b11 (iv_lit (lo := 1) (hi := 1) 1 (by decide) (by decide)) (by decide) (by decide) (by decide) (by decide)
                    have t89 : v86.toInt = y1.toInt + 1 := by rw [e87]; exact ti_addc 1 (by decide) b11 (by decide) (by decide)
                    refine lv_goto (tgt := 5) E.1 E.2.1 dX11_areAllSo_82 (by decide) ?_
                    exact ih5 zz70 v86 0 H locs ls G oo71 kk72 (iv_mono b88 (by decide) (by decide)) (iv_mono (iv_lit (lo := 0) (hi := 0) 0 (by decide) (by decide)) (by decide) (by decide)) (by have := t89; have := m6; omega) (lv_sub hl [0, 2, 3, 4, 5] rfl)
                  · skip
                    refine lv_aload_n E.1 E.2.1 dX11_areAllSo_56 rfl (lv_at hl 3 rfl) ?_
                    refine t_get E G 11 31 (rfl : ro 386 = 11) (C := RX11) (T := TX11) (N := 37) rfl (by decide) (by decide) (by decide) mw_fl_11_68 (v := .ref (ad 404)) (fvl_o (n := 18) rfl) dX11_areAllSo_57 ?_
                    refine lv_iconst (v := 5) E.1 E.2.1 dX11_areAllSo_60 (by decide) ?_
                    refine lv_iload_n E.1 E.2.1 dX11_areAllSo_61 rfl (lv_at hl 4 rfl) ?_
                    refine lv_imul E.1 E.2.1 dX11_areAllSo_62 ?_
                    refine lv_topi (fun v90 e91 => ?_)
                    have b92 : iv 0 30 v90 := by rw [e91]; exact iv_mulc' bx1 5 (by decide) (by decide) (by decide) (by decide) (by decide) (by decide)
                    have l93 : v90.toInt = 0 + 5 * x1.toInt := (show v90.toInt = 5 * x1.toInt by rw [e91]; exact ti_cmul 5 (by decide) (by decide) bx1 (by decide) (by decide)).trans (by omega)
                    refine lv_iload E.1 E.2.1 dX11_areAllSo_63 (lv_at hl 0 rfl) ?_
                    refine lv_iadd E.1 E.2.1 dX11_areAllSo_65 ?_
                    refine lv_topi (fun v94 e95 => ?_)
                    have b96 : iv 0 34 v94 := by rw [e95]; exact iv_add b92 b83 (by decide) (by decide) (by decide) (by decide)
                    have l97 : v94.toInt = 0 + 5 * x1.toInt + 1 * y69.toInt := (show v94.toInt = v90.toInt + y69.toInt by rw [e95]; exact ti_addv b92 b83 (by decide) (by decide)).trans (by omega)
                    refine lv_aload_n E.1 E.2.1 dX11_areAllSo_66 rfl (lv_at hl 3 rfl) ?_
                    refine lv_iload E.1 E.2.1 dX11_areAllSo_67 (lv_at hl 0 rfl) ?_
                    refine t_vi E G hl (v_cornerOf l D K ad zz70 oo71 y69 (iv_mono b83 (by decide) (by decide))) 11 (rfl : ro 386 = 11) (by decide) rfl rfl 1 rfl mw_code_X11_cornerOf mw_ini_11 mw_ml_11_291 mw_inst_X11_cornerOf mw_sel_X11_cornerOf hd_X11_cornerOf ⟨Nat.le_trans (by decide) hfr, Nat.le_trans (by decide) hlo⟩ rfl rfl rfl (Nat.le_of_ble_eq_true rfl) dX11_areAllSo_69 (fun r99 zz98 H locs hp100 G => ?_)
                    obtain ⟨hz102, b101⟩ := hp100
                    rw [hz102] at G
                    refine t_iast E G 62 (rfl : ro 404 = 62) (by decide) (by decide) rfl (n := 35) rfl (iv_vp b96 (by decide) (by decide)) dX11_areAllSo_72 (fun H locs G => ?_)
                    obtain ⟨zz103, G, oo104, kk105⟩ : ∃ u : TS, mG D A s H locs (wd K ad u) ∧ Ok u ∧ KM z u := ⟨_, G, ok_u oo71 62 (rfl : ro 404 = 62) (wr_u (by decide) (iv_mono b101 (by decide) (by decide))) (by decide), KF.tr kk72 (KF_r 62 (rfl : ro 404 = 62) (by decide))⟩
                    obtain ⟨v106, e107⟩ : ∃ w : Int32, w = y69 + (1 : Int32) := ⟨_, rfl⟩
                    refine lv_iinc (v := v106) (lv' := [(5, .int v106), (3, .int 0), (4, .int y1), (0, .ref (ad 386)), (1, .int x1), (2, .int x2)]) E.1 E.2.1 dX11_areAllSo_73 hl (k := 0) rfl (by rw [e107]; rfl) (by decide) rfl (fun ls hl => ?_)
                    have b108 : iv 1 5 v106 := by rw [e107]; exact iv_add b83 (iv_lit (lo := 1) (hi := 1) 1 (by decide) (by decide)) (by decide) (by decide) (by decide) (by decide)
                    have t109 : v106.toInt = y69.toInt + 1 := by rw [e107]; exact ti_addc 1 (by decide) b83 (by decide) (by decide)
                    refine lv_goto (tgt := 39) E.1 E.2.1 dX11_areAllSo_76 (by decide) ?_
                    exact ih39 zz103 v106 H locs ls G oo104 kk105 (iv_mono b108 (by decide) (by decide)) (by have := t109; have := m73; omega) (lv_sub hl [0, 1, 2, 3, 4, 5] rfl)
            exact LOOP39 6 zz12 0 H locs ls G oo15 kk17 (iv_mono (iv_lit (lo := 0) (hi := 0) 0 (by decide) (by decide)) (by decide) (by decide)) (by have := (iv_lit (lo := 0) (hi := 0) 0 (by decide) (by decide)).1; omega) (lv_sub hl [0, 1, 2, 3, 4, 5] rfl)
          · skip
            have b110 : iv 1 1 r63 := ne_lo c67 b65 (by decide) (by decide)
            refine lv_iconst (v := 1) E.1 E.2.1 dX11_areAllSo_30 (by decide) ?_
            refine lv_goto (tgt := 35) E.1 E.2.1 dX11_areAllSo_31 (by decide) ?_
            refine lv_istore_n (lv' := [(3, .int 1), (4, .int y1), (0, .ref (ad 386)), (1, .int x1), (2, .int x2)]) E.1 E.2.1 dX11_areAllSo_35 rfl hl (by decide) rfl (fun ls hl => ?_)
            refine lv_iconst (v := 0) E.1 E.2.1 dX11_areAllSo_36 (by decide) ?_
            refine lv_istore (lv' := [(5, .int 0), (3, .int 1), (4, .int y1), (0, .ref (ad 386)), (1, .int x1), (2, .int x2)]) E.1 E.2.1 dX11_areAllSo_37 hl (by decide) rfl (fun ls hl => ?_)
            have LOOP39 : ∀ n : Nat, ∀ (zz112 : TS) (y111 : Int32) (H : Heap) (locs : List Loc) (ls : Array Slot), mG D A s H locs (wd K ad zz112) → Ok zz112 → KM z zz112 → iv 0 5 y111 → 5 < y111.toInt + (n : Int) → lv_has ls 6 [(5, .int y111), (3, .int 1), (4, .int y1), (0, .ref (ad 386)), (1, .int x1), (2, .int x2)] → W p l e R s m args below meth c H locs 0 0 Q (F0 m 39 ls []) := by
              intro n
              induction n with
              | zero =>
                intro zz112 y111 H locs ls G oo113 kk114 b116 m115 hl
                exact absurd m115 (by have := b116.1; have := b116.2; omega)
              | succ n ih39 =>
                intro zz112 y111 H locs ls G oo113 kk114 b116 m115 hl
                refine lv_iload E.1 E.2.1 dX11_areAllSo_39 (lv_at hl 0 rfl) ?_
                refine lv_aload_n E.1 E.2.1 dX11_areAllSo_41 rfl (lv_at hl 3 rfl) ?_
                refine t_get E G 11 20 (rfl : ro 386 = 11) (C := RX11) (T := TX11) (N := 37) rfl (by decide) (by decide) (by decide) mw_fl_11_39 (v := .ref (ad 396)) (fvl_o (n := 10) rfl) dX11_areAllSo_42 ?_
                refine lv_iconst (v := 4) E.1 E.2.1 dX11_areAllSo_45 (by decide) ?_
                refine t_iald E G 54 (rfl : ro 396 = 54) (by decide) (by decide) rfl (n := 127) rfl (by unfold vp_in; decide) dX11_areAllSo_46 ?_
                refine lv_topi (fun v117 e118 => ?_)
                have b119 : iv 0 5 v117 := by rw [e118]; exact iv_mono (oo113.a 54 (rfl : ro 396 = 54) _) (by decide +kernel) (by decide +kernel)
                refine lv_icmp_ge (tgt := 79) E.1 E.2.1 dX11_areAllSo_47 (by decide) (fun c120 => ?_) (fun c120 => ?_)
                · skip
                  obtain ⟨v121, e122⟩ : ∃ w : Int32, w = y1 + (1 : Int32) := ⟨_, rfl⟩
                  refine lv_iinc (v := v121) (lv' := [(4, .int v121), (5, .int y111), (3, .int 1), (0, .ref (ad 386)), (1, .int x1), (2, .int x2)]) E.1 E.2.1 dX11_areAllSo_79 hl (k := 2) rfl (by rw [e122]; rfl) (by decide) rfl (fun ls hl => ?_)
                  have b123 : iv 1 61 v121 := by rw [e122]; exact iv_add b11 (iv_lit (lo := 1) (hi := 1) 1 (by decide) (by decide)) (by decide) (by decide) (by decide) (by decide)
                  have t124 : v121.toInt = y1.toInt + 1 := by rw [e122]; exact ti_addc 1 (by decide) b11 (by decide) (by decide)
                  refine lv_goto (tgt := 5) E.1 E.2.1 dX11_areAllSo_82 (by decide) ?_
                  exact ih5 zz112 v121 1 H locs ls G oo113 kk114 (iv_mono b123 (by decide) (by decide)) (iv_mono (iv_lit (lo := 1) (hi := 1) 1 (by decide) (by decide)) (by decide) (by decide)) (by have := t124; have := m6; omega) (lv_sub hl [0, 2, 3, 4, 5] rfl)
                · skip
                  have b125 : iv 0 4 y111 := lt_l (Int32.not_le.mp c120) b116 b119 (by decide)
                  have b126 : iv 1 5 v117 := lt_r (Int32.not_le.mp c120) b116 b119 (by decide)
                  refine lv_iload E.1 E.2.1 dX11_areAllSo_50 (lv_at hl 2 rfl) ?_
                  refine lv_iload_n E.1 E.2.1 dX11_areAllSo_52 rfl (lv_at hl 5 rfl) ?_
                  refine lv_icmp_ne (tgt := 79) E.1 E.2.1 dX11_areAllSo_53 (by decide) (fun c127 => ?_) (fun c127 => ?_)
                  · skip
                    obtain ⟨v128, e129⟩ : ∃ w : Int32, w = y1 + (1 : Int32) := ⟨_, rfl⟩
                    refine lv_iinc (v := v128) (lv' := [(4, .int v128), (5, .int y111), (3, .int 1), (0, .ref (ad 386)), (1, .int x1), (2, .int x2)]) E.1 E.2.1 dX11_areAllSo_79 hl (k := 2) rfl (by rw [e129]; rfl) (by decide) rfl (fun ls hl => ?_)
                    have b130 : iv 1 61 v128 := by rw [e129]; exact iv_add b11 (iv_lit (lo := 1) (hi := 1) 1 (by decide) (by decide)) (by decide) (by decide) (by decide) (by decide)
                    have t131 : v128.toInt = y1.toInt + 1 := by rw [e129]; exact ti_addc 1 (by decide) b11 (by decide) (by decide)
                    refine lv_goto (tgt := 5) E.1 E.2.1 dX11_areAllSo_82 (by decide) ?_
                    exact ih5 zz112 v128 1 H locs ls G oo113 kk114 (iv_mono b130 (by decide) (by decide)) (iv_mono (iv_lit (lo := 1) (hi := 1) 1 (by decide) (by decide)) (by decide) (by decide)) (by have := t131; have := m6; omega) (lv_sub hl [0, 2, 3, 4, 5] rfl)
                  · skip
                    refine lv_aload_n E.1 E.2.1 dX11_areAllSo_56 rfl (lv_at hl 3 rfl) ?_
                    refine t_get E G 11 31 (rfl : ro 386 = 11) (C := RX11) (T := TX11) (N := 37) rfl (by decide) (by decide) (by decide) mw_fl_11_68 (v := .ref (ad 404)) (fvl_o (n := 18) rfl) dX11_areAllSo_57 ?_
                    refine lv_iconst (v := 5) E.1 E.2.1 dX11_areAllSo_60 (by decide) ?_
                    refine lv_iload_n E.1 E.2.1 dX11_areAllSo_61 rfl (lv_at hl 4 rfl) ?_
                    refine lv_imul E.1 E.2.1 dX11_areAllSo_62 ?_
                    refine lv_topi (fun v132 e133 => ?_)
                    have b134 : iv 0 30 v132 := by rw [e133]; exact iv_mulc' bx1 5 (by decide) (by decide) (by decide) (by decide) (by decide) (by decide)
                    have l135 : v132.toInt = 0 + 5 * x1.toInt := (show v132.toInt = 5 * x1.toInt by rw [e133]; exact ti_cmul 5 (by decide) (by decide) bx1 (by decide) (by decide)).trans (by omega)
                    refine lv_iload E.1 E.2.1 dX11_areAllSo_63 (lv_at hl 0 rfl) ?_
                    refine lv_iadd E.1 E.2.1 dX11_areAllSo_65 ?_
                    refine lv_topi (fun v136 e137 => ?_)
                    have b138 : iv 0 34 v136 := by rw [e137]; exact iv_add b134 b125 (by decide) (by decide) (by decide) (by decide)
                    have l139 : v136.toInt = 0 + 5 * x1.toInt + 1 * y111.toInt := (show v136.toInt = v132.toInt + y111.toInt by rw [e137]; exact ti_addv b134 b125 (by decide) (by decide)).trans (by omega)
                    refine lv_aload_n E.1 E.2.1 dX11_areAllSo_66 rfl (lv_at hl 3 rfl) ?_
                    refine lv_iload E.1 E.2.1 dX11_areAllSo_67 (lv_at hl 0 rfl) ?_
                    refine t_vi E G hl (v_cornerOf l D K ad zz112 oo113 y111 (iv_mono b125 (by decide) (by decide))) 11 (rfl : ro 386 = 11) (by decide) rfl rfl 1 rfl mw_code_X11_cornerOf mw_ini_11 mw_ml_11_291 mw_inst_X11_cornerOf mw_sel_X11_cornerOf hd_X11_cornerOf ⟨Nat.le_trans (by decide) hfr, Nat.le_trans (by decide) hlo⟩ rfl rfl rfl (Nat.le_of_ble_eq_true rfl) dX11_areAllSo_69 (fun r141 zz140 H locs hp142 G => ?_)
                    obtain ⟨hz144, b143⟩ := hp142
                    rw [hz144] at G
                    refine t_iast E G 62 (rfl : ro 404 = 62) (by decide) (by decide) rfl (n := 35) rfl (iv_vp b138 (by decide) (by decide)) dX11_areAllSo_72 (fun H locs G => ?_)
                    obtain ⟨zz145, G, oo146, kk147⟩ : ∃ u : TS, mG D A s H locs (wd K ad u) ∧ Ok u ∧ KM z u := ⟨_, G, ok_u oo113 62 (rfl : ro 404 = 62) (wr_u (by decide) (iv_mono b143 (by decide) (by decide))) (by decide), KF.tr kk114 (KF_r 62 (rfl : ro 404 = 62) (by decide))⟩
                    obtain ⟨v148, e149⟩ : ∃ w : Int32, w = y111 + (1 : Int32) := ⟨_, rfl⟩
                    refine lv_iinc (v := v148) (lv' := [(5, .int v148), (3, .int 1), (4, .int y1), (0, .ref (ad 386)), (1, .int x1), (2, .int x2)]) E.1 E.2.1 dX11_areAllSo_73 hl (k := 0) rfl (by rw [e149]; rfl) (by decide) rfl (fun ls hl => ?_)
                    have b150 : iv 1 5 v148 := by rw [e149]; exact iv_add b125 (iv_lit (lo := 1) (hi := 1) 1 (by decide) (by decide)) (by decide) (by decide) (by decide) (by decide)
                    have t151 : v148.toInt = y111.toInt + 1 := by rw [e149]; exact ti_addc 1 (by decide) b125 (by decide) (by decide)
                    refine lv_goto (tgt := 39) E.1 E.2.1 dX11_areAllSo_76 (by decide) ?_
                    exact ih39 zz145 v148 H locs ls G oo146 kk147 (iv_mono b150 (by decide) (by decide)) (by have := t151; have := m115; omega) (lv_sub hl [0, 1, 2, 3, 4, 5] rfl)
            exact LOOP39 6 zz12 0 H locs ls G oo15 kk17 (iv_mono (iv_lit (lo := 0) (hi := 0) 0 (by decide) (by decide)) (by decide) (by decide)) (by have := (iv_lit (lo := 0) (hi := 0) 0 (by decide) (by decide)).1; omega) (lv_sub hl [0, 1, 2, 3, 4, 5] rfl)
  exact LOOP5 62 z 0 1 H locs ls G o KF.rf (iv_mono (iv_lit (lo := 0) (hi := 0) 0 (by decide) (by decide)) (by decide) (by decide)) (iv_mono (iv_lit (lo := 1) (hi := 1) 1 (by decide) (by decide)) (by decide) (by decide)) (by have := (iv_lit (lo := 0) (hi := 0) 0 (by decide) (by decide)).1; omega) (lv_sub hl [0, 1, 2, 3, 4] rfl)
