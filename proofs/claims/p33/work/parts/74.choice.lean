theorem mw_code_X11_homewards : (Cond.code yX11_homewards cX11_homewards 5 (some .int) : Cond) ∈ cw := cw_of (List.mem_append_right _ (List.mem_append_right _ (List.mem_append_right _ (List.mem_append_right _ (List.mem_append_right _ (List.mem_append_right _ (List.mem_append_left _ (List.mem_of_getElem? (i := 233) rfl)))))))) (by decide +kernel)
theorem mw_code_X11_sumOf : (Cond.code yX11_sumOf cX11_sumOf 7 (some .long) : Cond) ∈ cw := cw_of (List.mem_append_right _ (List.mem_append_right _ (List.mem_append_right _ (List.mem_append_right _ (List.mem_append_right _ (List.mem_append_right _ (List.mem_append_right _ (List.mem_append_left _ (List.mem_of_getElem? (i := 12) rfl))))))))) (by decide +kernel)
theorem mw_inst_X11_homewards : (Cond.instanceMethod yX11_homewards : Cond) ∈ cw := cw_of (List.mem_append_right _ (List.mem_append_right _ (List.mem_append_right _ (List.mem_append_right _ (List.mem_append_right _ (List.mem_append_right _ (List.mem_append_left _ (List.mem_of_getElem? (i := 232) (by decide +kernel))))))))) (by decide +kernel)
theorem mw_inst_X11_sumOf : (Cond.instanceMethod yX11_sumOf : Cond) ∈ cw := cw_of (List.mem_append_right _ (List.mem_append_right _ (List.mem_append_right _ (List.mem_append_right _ (List.mem_append_right _ (List.mem_append_right _ (List.mem_append_right _ (List.mem_append_left _ (List.mem_of_getElem? (i := 11) (by decide +kernel)))))))))) (by decide +kernel)
theorem mw_ml_11_340 : (Cond.methodLink RX11 340 yX11_homewards : Cond) ∈ cw := cw_of (List.mem_append_right _ (List.mem_append_right _ (List.mem_append_right _ (List.mem_append_right _ (List.mem_append_right _ (List.mem_append_right _ (List.mem_append_left _ (List.mem_of_getElem? (i := 230) (by decide +kernel))))))))) (by decide +kernel)
theorem mw_ml_11_343 : (Cond.methodLink RX11 343 yX11_sumOf : Cond) ∈ cw := cw_of (List.mem_append_right _ (List.mem_append_right _ (List.mem_append_right _ (List.mem_append_right _ (List.mem_append_right _ (List.mem_append_right _ (List.mem_append_right _ (List.mem_append_left _ (List.mem_of_getElem? (i := 9) (by decide +kernel)))))))))) (by decide +kernel)
theorem mw_sel_X11_homewards : (Cond.selects RX11 yX11_homewards yX11_homewards : Cond) ∈ cw := cw_of (List.mem_append_left _ (List.mem_of_getElem? (i := 93) (by decide +kernel))) (by decide +kernel)
theorem mw_sel_X11_sumOf : (Cond.selects RX11 yX11_sumOf yX11_sumOf : Cond) ∈ cw := cw_of (List.mem_append_left _ (List.mem_of_getElem? (i := 97) (by decide +kernel))) (by decide +kernel)
theorem dX11_choice_0 : decode cX11_choice 0 = .ok (.aload_n 0, 1) := by decide +kernel
theorem dX11_choice_1 : decode cX11_choice 1 = .ok (.getfield 42, 3) := by decide +kernel
theorem dX11_choice_4 : decode cX11_choice 4 = .ok (.ifCond .ge 9, 3) := by decide +kernel
theorem dX11_choice_7 : decode cX11_choice 7 = .ok (.aload_n 0, 1) := by decide +kernel
theorem dX11_choice_8 : decode cX11_choice 8 = .ok (.iload_n 1, 1) := by decide +kernel
theorem dX11_choice_9 : decode cX11_choice 9 = .ok (.invokevirtual 340, 3) := by decide +kernel
theorem dX11_choice_12 : decode cX11_choice 12 = .ok (.ireturn, 1) := by decide +kernel
theorem dX11_choice_13 : decode cX11_choice 13 = .ok (.aload_n 0, 1) := by decide +kernel
theorem dX11_choice_14 : decode cX11_choice 14 = .ok (.iload_n 1, 1) := by decide +kernel
theorem dX11_choice_15 : decode cX11_choice 15 = .ok (.invokevirtual 291, 3) := by decide +kernel
theorem dX11_choice_18 : decode cX11_choice 18 = .ok (.istore_n 2, 1) := by decide +kernel
theorem dX11_choice_19 : decode cX11_choice 19 = .ok (.iload_n 2, 1) := by decide +kernel
theorem dX11_choice_20 : decode cX11_choice 20 = .ok (.istore_n 3, 1) := by decide +kernel
theorem dX11_choice_21 : decode cX11_choice 21 = .ok (.lconst 0, 1) := by decide +kernel
theorem dX11_choice_22 : decode cX11_choice 22 = .ok (.lstore 4, 2) := by decide +kernel
theorem dX11_choice_24 : decode cX11_choice 24 = .ok (.iconst 0, 1) := by decide +kernel
theorem dX11_choice_25 : decode cX11_choice 25 = .ok (.istore 6, 2) := by decide +kernel
theorem dX11_choice_27 : decode cX11_choice 27 = .ok (.iload 6, 2) := by decide +kernel
theorem dX11_choice_29 : decode cX11_choice 29 = .ok (.aload_n 0, 1) := by decide +kernel
theorem dX11_choice_30 : decode cX11_choice 30 = .ok (.getfield 39, 3) := by decide +kernel
theorem dX11_choice_33 : decode cX11_choice 33 = .ok (.iconst 1, 1) := by decide +kernel
theorem dX11_choice_34 : decode cX11_choice 34 = .ok (.iaload, 1) := by decide +kernel
theorem dX11_choice_35 : decode cX11_choice 35 = .ok (.if_icmp .ge 62, 3) := by decide +kernel
theorem dX11_choice_38 : decode cX11_choice 38 = .ok (.iload 6, 2) := by decide +kernel
theorem dX11_choice_40 : decode cX11_choice 40 = .ok (.iload_n 2, 1) := by decide +kernel
theorem dX11_choice_41 : decode cX11_choice 41 = .ok (.if_icmp .eq 23, 3) := by decide +kernel
theorem dX11_choice_44 : decode cX11_choice 44 = .ok (.aload_n 0, 1) := by decide +kernel
theorem dX11_choice_45 : decode cX11_choice 45 = .ok (.getfield 39, 3) := by decide +kernel
theorem dX11_choice_48 : decode cX11_choice 48 = .ok (.bipush 88, 2) := by decide +kernel
theorem dX11_choice_50 : decode cX11_choice 50 = .ok (.iload_n 2, 1) := by decide +kernel
theorem dX11_choice_51 : decode cX11_choice 51 = .ok (.iadd, 1) := by decide +kernel
theorem dX11_choice_52 : decode cX11_choice 52 = .ok (.iaload, 1) := by decide +kernel
theorem dX11_choice_53 : decode cX11_choice 53 = .ok (.iload 6, 2) := by decide +kernel
theorem dX11_choice_55 : decode cX11_choice 55 = .ok (.invokestatic 297, 3) := by decide +kernel
theorem dX11_choice_58 : decode cX11_choice 58 = .ok (.ifCond .ne 6, 3) := by decide +kernel
theorem dX11_choice_61 : decode cX11_choice 61 = .ok (.goto 30, 3) := by decide +kernel
theorem dX11_choice_64 : decode cX11_choice 64 = .ok (.aload_n 0, 1) := by decide +kernel
theorem dX11_choice_65 : decode cX11_choice 65 = .ok (.iload_n 1, 1) := by decide +kernel
theorem dX11_choice_66 : decode cX11_choice 66 = .ok (.iload 6, 2) := by decide +kernel
theorem dX11_choice_68 : decode cX11_choice 68 = .ok (.invokevirtual 343, 3) := by decide +kernel
theorem dX11_choice_71 : decode cX11_choice 71 = .ok (.lstore 7, 2) := by decide +kernel
theorem dX11_choice_73 : decode cX11_choice 73 = .ok (.lload 7, 2) := by decide +kernel
theorem dX11_choice_75 : decode cX11_choice 75 = .ok (.lload 4, 2) := by decide +kernel
theorem dX11_choice_77 : decode cX11_choice 77 = .ok (.lcmp, 1) := by decide +kernel
theorem dX11_choice_78 : decode cX11_choice 78 = .ok (.ifCond .gt 6, 3) := by decide +kernel
theorem dX11_choice_81 : decode cX11_choice 81 = .ok (.goto 10, 3) := by decide +kernel
theorem dX11_choice_84 : decode cX11_choice 84 = .ok (.iload 6, 2) := by decide +kernel
theorem dX11_choice_86 : decode cX11_choice 86 = .ok (.istore_n 3, 1) := by decide +kernel
theorem dX11_choice_87 : decode cX11_choice 87 = .ok (.lload 7, 2) := by decide +kernel
theorem dX11_choice_89 : decode cX11_choice 89 = .ok (.lstore 4, 2) := by decide +kernel
theorem dX11_choice_91 : decode cX11_choice 91 = .ok (.iinc 6 1, 3) := by decide +kernel
theorem dX11_choice_94 : decode cX11_choice 94 = .ok (.goto (-67), 3) := by decide +kernel
theorem dX11_choice_97 : decode cX11_choice 97 = .ok (.iload_n 3, 1) := by decide +kernel
theorem dX11_choice_98 : decode cX11_choice 98 = .ok (.ireturn, 1) := by decide +kernel
theorem hd_X11_homewards : yX11_homewards.cls ≠ "java/lang/invoke/MethodHandle" ∧ yX11_homewards.cls ≠ "java/lang/invoke/VarHandle" ∧ (parseMethodDescriptor yX11_homewards.desc).map (fun d => d.parameters.length) = some 1 := ⟨by decide +kernel, by decide +kernel, by decide +kernel⟩
theorem hd_X11_sumOf : yX11_sumOf.cls ≠ "java/lang/invoke/MethodHandle" ∧ yX11_sumOf.cls ≠ "java/lang/invoke/VarHandle" ∧ (parseMethodDescriptor yX11_sumOf.desc).map (fun d => d.parameters.length) = some 2 := ⟨by decide +kernel, by decide +kernel, by decide +kernel⟩
set_option maxHeartbeats 4000000 in
set_option maxRecDepth 100000 in
theorem v_choice (l : Launch) (D : va_G) (K : Nat → ClassId) (ad : Nat → Nat) (z : TS) (o : Ok z) (x1 : Int32) (bx1 : iv 0 4 x1) (wf : WFc z) : cI l yX11_choice cX11_choice 9 .int ({ frames := 5, cells := 0, slots := 0, locals := 118 }) D K ad z [.ref (ad 386), .int x1] (fun r u => Ok u ∧ KQ z u ∧ iv 0 7 r ∧ tI u 386 21 = tI z 386 21) := by
  refine t_enterI (by decide) (Nat.le_of_ble_eq_true rfl) rfl rfl ?_
  intro p e s m args below meth c A R Q H locs ls E hfr hlo RET G hl
  have E : mE p s m meth c cX11_choice args 9 RX11 D K A := E
  have hl : lv_has ls 9 [(0, .ref (ad 386)), (1, .int x1)] := hl
  refine lv_aload_n E.1 E.2.1 dX11_choice_0 rfl (lv_at hl 0 rfl) ?_
  refine t_get E G 11 21 (rfl : ro 386 = 11) (C := RX11) (T := TX11) (N := 37) rfl (by decide) (by decide) (by decide) mw_fl_11_42 (fvl_i rfl) dX11_choice_1 ?_
  refine lv_topi (fun v1 e2 => ?_)
  have b3 : iv (-1) 5 v1 := by rw [e2]; exact o.i 11 21 (rfl : ro 386 = 11)
  refine lv_if_ge (tgt := 13) E.1 E.2.1 dX11_choice_4 (by decide) (fun c4 => ?_) (fun c4 => ?_)
  · skip
    have b5 : iv 0 5 v1 := le_r c4 (iv_lit (lo := 0) (hi := 0) 0 (by decide) (by decide)) b3 (by decide)
    refine lv_aload_n E.1 E.2.1 dX11_choice_13 rfl (lv_at hl 0 rfl) ?_
    refine lv_iload_n E.1 E.2.1 dX11_choice_14 rfl (lv_at hl 1 rfl) ?_
    refine t_vi E G hl (v_cornerOf l D K ad z o x1 (iv_mono bx1 (by decide) (by decide))) 11 (rfl : ro 386 = 11) (by decide) rfl rfl 1 rfl mw_code_X11_cornerOf mw_ini_11 mw_ml_11_291 mw_inst_X11_cornerOf mw_sel_X11_cornerOf hd_X11_cornerOf ⟨Nat.le_trans (by decide) hfr, Nat.le_trans (by decide) hlo⟩ rfl rfl rfl (Nat.le_of_ble_eq_true rfl) dX11_choice_15 (fun r7 zz6 H locs hp8 G => ?_)
    obtain ⟨hz10, b9⟩ := hp8
    rw [hz10] at G
    refine lv_istore_n (lv' := [(2, .int r7), (0, .ref (ad 386)), (1, .int x1)]) E.1 E.2.1 dX11_choice_18 rfl hl (by decide) rfl (fun ls hl => ?_)
    refine lv_iload_n E.1 E.2.1 dX11_choice_19 rfl (lv_at hl 0 rfl) ?_
    refine lv_istore_n (lv' := [(3, .int r7), (2, .int r7), (0, .ref (ad 386)), (1, .int x1)]) E.1 E.2.1 dX11_choice_20 rfl hl (by decide) rfl (fun ls hl => ?_)
    refine lv_lconst (v := 0) E.1 E.2.1 dX11_choice_21 (by decide) ?_
    refine lv_lstore (lv' := [(4, .long 0), (3, .int r7), (2, .int r7), (0, .ref (ad 386)), (1, .int x1)]) E.1 E.2.1 dX11_choice_22 hl (by decide) rfl (fun ls hl => ?_)
    refine lv_iconst (v := 0) E.1 E.2.1 dX11_choice_24 (by decide) ?_
    refine lv_istore (lv' := [(6, .int 0), (4, .long 0), (3, .int r7), (2, .int r7), (0, .ref (ad 386)), (1, .int x1)]) E.1 E.2.1 dX11_choice_25 hl (by decide) rfl (fun ls hl => ?_)
    have LOOP27 : ∀ n : Nat, ∀ (zz14 : TS) (y11 : Int32) (y12 : Int64) (y13 : Int32) (H : Heap) (locs : List Loc) (ls : Array Slot), mG D A s H locs (wd K ad zz14) → Ok zz14 → KQ z zz14 → iv 0 8 y11 → iv 0 7 y13 → tI zz14 386 21 = tI z 386 21 → 8 < y11.toInt + (n : Int) → lv_has ls 9 [(6, .int y11), (4, .long y12), (3, .int y13), (2, .int r7), (0, .ref (ad 386)), (1, .int x1)] → W p l e R s m args below meth c H locs 0 0 Q (F0 m 27 ls []) := by
      intro n
      induction n with
      | zero =>
        intro zz14 y11 y12 y13 H locs ls G oo15 kk16 b18 b19 h20 m17 hl
        exact absurd m17 (by have := b18.1; have := b18.2; omega)
      | succ n ih27 =>
        intro zz14 y11 y12 y13 H locs ls G oo15 kk16 b18 b19 h20 m17 hl
        refine lv_iload E.1 E.2.1 dX11_choice_27 (lv_at hl 0 rfl) ?_
        refine lv_aload_n E.1 E.2.1 dX11_choice_29 rfl (lv_at hl 4 rfl) ?_
        refine t_get E G 11 20 (rfl : ro 386 = 11) (C := RX11) (T := TX11) (N := 37) rfl (by decide) (by decide) (by decide) mw_fl_11_39 (v := .ref (ad 396)) (fvl_o (n := 10) rfl) dX11_choice_30 ?_
        refine lv_iconst (v := 1) E.1 E.2.1 dX11_choice_33 (by decide) ?_
        refine t_iald E G 54 (rfl : ro 396 = 54) (by decide) (by decide) rfl (n := 127) rfl (by unfold vp_in; decide) dX11_choice_34 ?_
        refine lv_topi (fun v21 e22 => ?_)
        have b23 : iv 0 8 v21 := by rw [e22]; exact iv_mono (oo15.a 54 (rfl : ro 396 = 54) _) (by decide +kernel) (by decide +kernel)
        refine lv_icmp_ge (tgt := 97) E.1 E.2.1 dX11_choice_35 (by decide) (fun c24 => ?_) (fun c24 => ?_)
        · skip
          refine lv_iload_n E.1 E.2.1 dX11_choice_97 rfl (lv_at hl 2 rfl) ?_
          exact RET G ⟨oo15, kk16, (iv_mono b19 (by decide) (by decide)), h20⟩ rfl dX11_choice_98
        · skip
          have b25 : iv 0 7 y11 := lt_l (Int32.not_le.mp c24) b18 b23 (by decide)
          have b26 : iv 1 8 v21 := lt_r (Int32.not_le.mp c24) b18 b23 (by decide)
          refine lv_iload E.1 E.2.1 dX11_choice_38 (lv_at hl 0 rfl) ?_
          refine lv_iload_n E.1 E.2.1 dX11_choice_40 rfl (lv_at hl 3 rfl) ?_
          refine lv_icmp_eq (tgt := 64) E.1 E.2.1 dX11_choice_41 (by decide) (fun c27 => ?_) (fun c27 => ?_)
          · skip
            refine lv_aload_n E.1 E.2.1 dX11_choice_64 rfl (lv_at hl 4 rfl) ?_
            refine lv_iload_n E.1 E.2.1 dX11_choice_65 rfl (lv_at hl 5 rfl) ?_
            refine lv_iload E.1 E.2.1 dX11_choice_66 (lv_at hl 0 rfl) ?_
            refine t_vl E G hl (v_sumOf l D K ad zz14 oo15 x1 (iv_mono bx1 (by decide) (by decide)) y11 (wf_ka wf kk16.2.1 rfl rfl rfl rfl) (by rw [h20, ← (e2.trans rfl)]; exact iv_mono b5 (by decide) (by decide))) 11 (rfl : ro 386 = 11) (by decide) rfl rfl 2 rfl mw_code_X11_sumOf mw_ini_11 mw_ml_11_343 mw_inst_X11_sumOf mw_sel_X11_sumOf hd_X11_sumOf ⟨Nat.le_trans (by decide) hfr, Nat.le_trans (by decide) hlo⟩ rfl rfl rfl (Nat.le_of_ble_eq_true rfl) dX11_choice_68 (fun r29 zz28 H locs hp30 G => ?_)
            obtain ⟨oo31, kk32⟩ := hp30
            have kk33 : KQ z zz28 := KF.tr kk16 kk32
            have h34 : tI zz28 386 21 = (tI z 386 21) := KF.i kk32 11 (rfl : ro 386 = 11) (by decide) h20
            refine lv_lstore (lv' := [(7, .long r29), (6, .int y11), (4, .long y12), (3, .int y13), (2, .int r7), (0, .ref (ad 386)), (1, .int x1)]) E.1 E.2.1 dX11_choice_71 hl (by decide) rfl (fun ls hl => ?_)
            refine lv_lload E.1 E.2.1 dX11_choice_73 (lv_at hl 0 rfl) ?_
            refine lv_lload E.1 E.2.1 dX11_choice_75 (lv_at hl 2 rfl) ?_
            refine W.lcmp E.1 E.2.1 dX11_choice_77 ?_
            refine lv_topi (fun v35 e36 => ?_)
            have b37 : iv (-1) 1 v35 := by rw [e36]; exact lgc_iv _ _
            refine lv_if_gt (tgt := 84) E.1 E.2.1 dX11_choice_78 (by decide) (fun c38 => ?_) (fun c38 => ?_)
            · skip
              have b39 : iv 1 1 v35 := lt_r c38 (iv_lit (lo := 0) (hi := 0) 0 (by decide) (by decide)) b37 (by decide)
              refine lv_iload E.1 E.2.1 dX11_choice_84 (lv_at hl 1 rfl) ?_
              refine lv_istore_n (lv' := [(3, .int y11), (7, .long r29), (6, .int y11), (4, .long y12), (2, .int r7), (0, .ref (ad 386)), (1, .int x1)]) E.1 E.2.1 dX11_choice_86 rfl hl (by decide) rfl (fun ls hl => ?_)
              refine lv_lload E.1 E.2.1 dX11_choice_87 (lv_at hl 1 rfl) ?_
              refine lv_lstore (lv' := [(4, .long r29), (3, .int y11), (7, .long r29), (6, .int y11), (2, .int r7), (0, .ref (ad 386)), (1, .int x1)]) E.1 E.2.1 dX11_choice_89 hl (by decide) rfl (fun ls hl => ?_)
              obtain ⟨v40, e41⟩ : ∃ w : Int32, w = y11 + (1 : Int32) := ⟨_, rfl⟩
              refine lv_iinc (v := v40) (lv' := [(6, .int v40), (4, .long r29), (3, .int y11), (7, .long r29), (2, .int r7), (0, .ref (ad 386)), (1, .int x1)]) E.1 E.2.1 dX11_choice_91 hl (k := 3) rfl (by rw [e41]; rfl) (by decide) rfl (fun ls hl => ?_)
              have b42 : iv 1 8 v40 := by rw [e41]; exact iv_add b25 (iv_lit (lo := 1) (hi := 1) 1 (by decide) (by decide)) (by decide) (by decide) (by decide) (by decide)
              have t43 : v40.toInt = y11.toInt + 1 := by rw [e41]; exact ti_addc 1 (by decide) b25 (by decide) (by decide)
              refine lv_goto (tgt := 27) E.1 E.2.1 dX11_choice_94 (by decide) ?_
              exact ih27 zz28 v40 r29 y11 H locs ls G oo31 kk33 (iv_mono b42 (by decide) (by decide)) (iv_mono b25 (by decide) (by decide)) h34 (by have := t43; have := m17; omega) (lv_sub hl [0, 1, 2, 4, 5, 6] rfl)
            · skip
              have b44 : iv (-1) 0 v35 := le_l (Int32.not_lt.mp c38) b37 (iv_lit (lo := 0) (hi := 0) 0 (by decide) (by decide)) (by decide)
              refine lv_goto (tgt := 91) E.1 E.2.1 dX11_choice_81 (by decide) ?_
              obtain ⟨v45, e46⟩ : ∃ w : Int32, w = y11 + (1 : Int32) := ⟨_, rfl⟩
              refine lv_iinc (v := v45) (lv' := [(6, .int v45), (7, .long r29), (4, .long y12), (3, .int y13), (2, .int r7), (0, .ref (ad 386)), (1, .int x1)]) E.1 E.2.1 dX11_choice_91 hl (k := 1) rfl (by rw [e46]; rfl) (by decide) rfl (fun ls hl => ?_)
              have b47 : iv 1 8 v45 := by rw [e46]; exact iv_add b25 (iv_lit (lo := 1) (hi := 1) 1 (by decide) (by decide)) (by decide) (by decide) (by decide) (by decide)
              have t48 : v45.toInt = y11.toInt + 1 := by rw [e46]; exact ti_addc 1 (by decide) b25 (by decide) (by decide)
              refine lv_goto (tgt := 27) E.1 E.2.1 dX11_choice_94 (by decide) ?_
              exact ih27 zz28 v45 y12 y13 H locs ls G oo31 kk33 (iv_mono b47 (by decide) (by decide)) (iv_mono b19 (by decide) (by decide)) h34 (by have := t48; have := m17; omega) (lv_sub hl [0, 2, 3, 4, 5, 6] rfl)
          · skip
            refine lv_aload_n E.1 E.2.1 dX11_choice_44 rfl (lv_at hl 4 rfl) ?_
            refine t_get E G 11 20 (rfl : ro 386 = 11) (C := RX11) (T := TX11) (N := 37) rfl (by decide) (by decide) (by decide) mw_fl_11_39 (v := .ref (ad 396)) (fvl_o (n := 10) rfl) dX11_choice_45 ?_
            refine lv_bipush (v := 88) E.1 E.2.1 dX11_choice_48 (by decide) ?_
            refine lv_iload_n E.1 E.2.1 dX11_choice_50 rfl (lv_at hl 3 rfl) ?_
            refine lv_iadd E.1 E.2.1 dX11_choice_51 ?_
            refine lv_topi (fun v49 e50 => ?_)
            have b51 : iv 88 95 v49 := by rw [e50]; exact iv_add (iv_lit (lo := 88) (hi := 88) 88 (by decide) (by decide)) b9 (by decide) (by decide) (by decide) (by decide)
            have l52 : v49.toInt = 88 + 1 * r7.toInt := (show v49.toInt = 88 + r7.toInt by rw [e50]; exact ti_cadd 88 (by decide) b9 (by decide) (by decide)).trans (by omega)
            refine t_iald E G 54 (rfl : ro 396 = 54) (by decide) (by decide) rfl (n := 127) rfl (iv_vp b51 (by decide) (by decide)) dX11_choice_52 ?_
            refine lv_topi (fun v53 e54 => ?_)
            refine lv_iload E.1 E.2.1 dX11_choice_53 (lv_at hl 0 rfl) ?_
            refine t_si E G hl (v_isOf l D K ad zz14 oo15 v53 y11) 2 rfl mw_code_X11_isOf mw_ini_11 mw_ml_11_297 mw_stat_X11_isOf hd_X11_isOf ⟨Nat.le_trans (by decide) hfr, Nat.le_trans (by decide) hlo⟩ rfl rfl rfl (Nat.le_of_ble_eq_true rfl) dX11_choice_55 (fun r56 zz55 H locs hp57 G => ?_)
            obtain ⟨hz59, b58⟩ := hp57
            rw [hz59] at G
            refine lv_if_ne (tgt := 64) E.1 E.2.1 dX11_choice_58 (by decide) (fun c60 => ?_) (fun c60 => ?_)
            · skip
              have b61 : iv 1 1 r56 := ne_lo c60 b58 (by decide) (by decide)
              refine lv_aload_n E.1 E.2.1 dX11_choice_64 rfl (lv_at hl 4 rfl) ?_
              refine lv_iload_n E.1 E.2.1 dX11_choice_65 rfl (lv_at hl 5 rfl) ?_
              refine lv_iload E.1 E.2.1 dX11_choice_66 (lv_at hl 0 rfl) ?_
              refine t_vl E G hl (v_sumOf l D K ad zz14 oo15 x1 (iv_mono bx1 (by decide) (by decide)) y11 (wf_ka wf kk16.2.1 rfl rfl rfl rfl) (by rw [h20, ← (e2.trans rfl)]; exact iv_mono b5 (by decide) (by decide))) 11 (rfl : ro 386 = 11) (by decide) rfl rfl 2 rfl mw_code_X11_sumOf mw_ini_11 mw_ml_11_343 mw_inst_X11_sumOf mw_sel_X11_sumOf hd_X11_sumOf ⟨Nat.le_trans (by decide) hfr, Nat.le_trans (by decide) hlo⟩ rfl rfl rfl (Nat.le_of_ble_eq_true rfl) dX11_choice_68 (fun r63 zz62 H locs hp64 G => ?_)
              obtain ⟨oo65, kk66⟩ := hp64
              have kk67 : KQ z zz62 := KF.tr kk16 kk66
              have h68 : tI zz62 386 21 = (tI z 386 21) := KF.i kk66 11 (rfl : ro 386 = 11) (by decide) h20
              refine lv_lstore (lv' := [(7, .long r63), (6, .int y11), (4, .long y12), (3, .int y13), (2, .int r7), (0, .ref (ad 386)), (1, .int x1)]) E.1 E.2.1 dX11_choice_71 hl (by decide) rfl (fun ls hl => ?_)
              refine lv_lload E.1 E.2.1 dX11_choice_73 (lv_at hl 0 rfl) ?_
              refine lv_lload E.1 E.2.1 dX11_choice_75 (lv_at hl 2 rfl) ?_
              refine W.lcmp E.1 E.2.1 dX11_choice_77 ?_
              refine lv_topi (fun v69 e70 => ?_)
              have b71 : iv (-1) 1 v69 := by rw [e70]; exact lgc_iv _ _
              refine lv_if_gt (tgt := 84) E.1 E.2.1 dX11_choice_78 (by decide) (fun c72 => ?_) (fun c72 => ?_)
              · skip
                have b73 : iv 1 1 v69 := lt_r c72 (iv_lit (lo := 0) (hi := 0) 0 (by decide) (by decide)) b71 (by decide)
                refine lv_iload E.1 E.2.1 dX11_choice_84 (lv_at hl 1 rfl) ?_
                refine lv_istore_n (lv' := [(3, .int y11), (7, .long r63), (6, .int y11), (4, .long y12), (2, .int r7), (0, .ref (ad 386)), (1, .int x1)]) E.1 E.2.1 dX11_choice_86 rfl hl (by decide) rfl (fun ls hl => ?_)
                refine lv_lload E.1 E.2.1 dX11_choice_87 (lv_at hl 1 rfl) ?_
                refine lv_lstore (lv' := [(4, .long r63), (3, .int y11), (7, .long r63), (6, .int y11), (2, .int r7), (0, .ref (ad 386)), (1, .int x1)]) E.1 E.2.1 dX11_choice_89 hl (by decide) rfl (fun ls hl => ?_)
                obtain ⟨v74, e75⟩ : ∃ w : Int32, w = y11 + (1 : Int32) := ⟨_, rfl⟩
                refine lv_iinc (v := v74) (lv' := [(6, .int v74), (4, .long r63), (3, .int y11), (7, .long r63), (2, .int r7), (0, .ref (ad 386)), (1, .int x1)]) E.1 E.2.1 dX11_choice_91 hl (k := 3) rfl (by rw [e75]; rfl) (by decide) rfl (fun ls hl => ?_)
                have b76 : iv 1 8 v74 := by rw [e75]; exact iv_add b25 (iv_lit (lo := 1) (hi := 1) 1 (by decide) (by decide)) (by decide) (by decide) (by decide) (by decide)
                have t77 : v74.toInt = y11.toInt + 1 := by rw [e75]; exact ti_addc 1 (by decide) b25 (by decide) (by decide)
                refine lv_goto (tgt := 27) E.1 E.2.1 dX11_choice_94 (by decide) ?_
                exact ih27 zz62 v74 r63 y11 H locs ls G oo65 kk67 (iv_mono b76 (by decide) (by decide)) (iv_mono b25 (by decide) (by decide)) h68 (by have := t77; have := m17; omega) (lv_sub hl [0, 1, 2, 4, 5, 6] rfl)
              · skip
                have b78 : iv (-1) 0 v69 := le_l (Int32.not_lt.mp c72) b71 (iv_lit (lo := 0) (hi := 0) 0 (by decide) (by decide)) (by decide)
                refine lv_goto (tgt := 91) E.1 E.2.1 dX11_choice_81 (by decide) ?_
                obtain ⟨v79, e80⟩ : ∃ w : Int32, w = y11 + (1 : Int32) := ⟨_, rfl⟩
                refine lv_iinc (v := v79) (lv' := [(6, .int v79), (7, .long r63), (4, .long y12), (3, .int y13), (2, .int r7), (0, .ref (ad 386)), (1, .int x1)]) E.1 E.2.1 dX11_choice_91 hl (k := 1) rfl (by rw [e80]; rfl) (by decide) rfl (fun ls hl => ?_)
                have b81 : iv 1 8 v79 := by rw [e80]; exact iv_add b25 (iv_lit (lo := 1) (hi := 1) 1 (by decide) (by decide)) (by decide) (by decide) (by decide) (by decide)
                have t82 : v79.toInt = y11.toInt + 1 := by rw [e80]; exact ti_addc 1 (by decide) b25 (by decide) (by decide)
                refine lv_goto (tgt := 27) E.1 E.2.1 dX11_choice_94 (by decide) ?_
                exact ih27 zz62 v79 y12 y13 H locs ls G oo65 kk67 (iv_mono b81 (by decide) (by decide)) (iv_mono b19 (by decide) (by decide)) h68 (by have := t82; have := m17; omega) (lv_sub hl [0, 2, 3, 4, 5, 6] rfl)
            · skip
              have b83 : iv 0 0 r56 := iv_eq c60 (iv_lit (lo := 0) (hi := 0) 0 (by decide) (by decide))
              refine lv_goto (tgt := 91) E.1 E.2.1 dX11_choice_61 (by decide) ?_
              obtain ⟨v84, e85⟩ : ∃ w : Int32, w = y11 + (1 : Int32) := ⟨_, rfl⟩
              refine lv_iinc (v := v84) (lv' := [(6, .int v84), (4, .long y12), (3, .int y13), (2, .int r7), (0, .ref (ad 386)), (1, .int x1)]) E.1 E.2.1 dX11_choice_91 hl (k := 0) rfl (by rw [e85]; rfl) (by decide) rfl (fun ls hl => ?_)
              have b86 : iv 1 8 v84 := by rw [e85]; exact iv_add b25 (iv_lit (lo := 1) (hi := 1) 1 (by decide) (by decide)) (by decide) (by decide) (by decide) (by decide)
              have t87 : v84.toInt = y11.toInt + 1 := by rw [e85]; exact ti_addc 1 (by decide) b25 (by decide) (by decide)
              refine lv_goto (tgt := 27) E.1 E.2.1 dX11_choice_94 (by decide) ?_
              exact ih27 zz14 v84 y12 y13 H locs ls G oo15 kk16 (iv_mono b86 (by decide) (by decide)) (iv_mono b19 (by decide) (by decide)) h20 (by have := t87; have := m17; omega) (lv_sub hl [0, 1, 2, 3, 4, 5] rfl)
    exact LOOP27 9 z 0 0 r7 H locs ls G o KF.rf (iv_mono (iv_lit (lo := 0) (hi := 0) 0 (by decide) (by decide)) (by decide) (by decide)) (iv_mono b9 (by decide) (by decide)) (e2.symm.trans (e2.trans rfl)) (by have := (iv_lit (lo := 0) (hi := 0) 0 (by decide) (by decide)).1; omega) (lv_sub hl [0, 1, 2, 3, 4, 5] rfl)
  · skip
    have b88 : iv (-1) (-1) v1 := lt_l (Int32.not_le.mp c4) b3 (iv_lit (lo := 0) (hi := 0) 0 (by decide) (by decide)) (by decide)
    refine lv_aload_n E.1 E.2.1 dX11_choice_7 rfl (lv_at hl 0 rfl) ?_
    refine lv_iload_n E.1 E.2.1 dX11_choice_8 rfl (lv_at hl 1 rfl) ?_
    refine t_vi E G hl (v_homewards l D K ad z o x1 (iv_mono bx1 (by decide) (by decide))) 11 (rfl : ro 386 = 11) (by decide) rfl rfl 1 rfl mw_code_X11_homewards mw_ini_11 mw_ml_11_340 mw_inst_X11_homewards mw_sel_X11_homewards hd_X11_homewards ⟨Nat.le_trans (by decide) hfr, Nat.le_trans (by decide) hlo⟩ rfl rfl rfl (Nat.le_of_ble_eq_true rfl) dX11_choice_9 (fun r90 zz89 H locs hp91 G => ?_)
    obtain ⟨hz93, b92⟩ := hp91
    rw [hz93] at G
    exact RET G ⟨o, KF.rf, (iv_mono b92 (by decide) (by decide)), (e2.symm.trans (e2.trans rfl))⟩ rfl dX11_choice_12
