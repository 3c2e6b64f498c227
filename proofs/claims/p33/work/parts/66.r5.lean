theorem mw_fl_11_267 : (Cond.fieldLink RX11 267 "LureTownModel" "undone" "I" : Cond) ∈ cw := cw_of (List.mem_append_right _ (List.mem_append_right _ (List.mem_append_right _ (List.mem_append_right _ (List.mem_append_right _ (List.mem_append_left _ (List.mem_of_getElem? (i := 133) (by decide +kernel)))))))) (by decide +kernel)
theorem mw_fl_11_52 : (Cond.fieldLink RX11 52 "LureTownModel" "wasSaid" "[I" : Cond) ∈ cw := cw_of (List.mem_append_right _ (List.mem_append_right _ (List.mem_append_right _ (List.mem_append_right _ (List.mem_append_right _ (List.mem_append_left _ (List.mem_of_getElem? (i := 132) (by decide +kernel)))))))) (by decide +kernel)
theorem mw_fl_11_55 : (Cond.fieldLink RX11 55 "LureTownModel" "kept" "[I" : Cond) ∈ cw := cw_of (List.mem_append_right _ (List.mem_append_right _ (List.mem_append_right _ (List.mem_append_right _ (List.mem_append_right _ (List.mem_append_left _ (List.mem_of_getElem? (i := 134) (by decide +kernel)))))))) (by decide +kernel)
theorem dX11_keeps_0 : decode cX11_keeps 0 = .ok (.iconst 0, 1) := by decide +kernel
theorem dX11_keeps_1 : decode cX11_keeps 1 = .ok (.istore_n 1, 1) := by decide +kernel
theorem dX11_keeps_2 : decode cX11_keeps 2 = .ok (.iload_n 1, 1) := by decide +kernel
theorem dX11_keeps_3 : decode cX11_keeps 3 = .ok (.bipush 34, 2) := by decide +kernel
theorem dX11_keeps_5 : decode cX11_keeps 5 = .ok (.if_icmp .ge 24, 3) := by decide +kernel
theorem dX11_keeps_8 : decode cX11_keeps 8 = .ok (.aload_n 0, 1) := by decide +kernel
theorem dX11_keeps_9 : decode cX11_keeps 9 = .ok (.getfield 55, 3) := by decide +kernel
theorem dX11_keeps_12 : decode cX11_keeps 12 = .ok (.iload_n 1, 1) := by decide +kernel
theorem dX11_keeps_13 : decode cX11_keeps 13 = .ok (.aload_n 0, 1) := by decide +kernel
theorem dX11_keeps_14 : decode cX11_keeps 14 = .ok (.getfield 39, 3) := by decide +kernel
theorem dX11_keeps_17 : decode cX11_keeps 17 = .ok (.bipush 10, 2) := by decide +kernel
theorem dX11_keeps_19 : decode cX11_keeps 19 = .ok (.iload_n 1, 1) := by decide +kernel
theorem dX11_keeps_20 : decode cX11_keeps 20 = .ok (.iadd, 1) := by decide +kernel
theorem dX11_keeps_21 : decode cX11_keeps 21 = .ok (.iaload, 1) := by decide +kernel
theorem dX11_keeps_22 : decode cX11_keeps 22 = .ok (.iastore, 1) := by decide +kernel
theorem dX11_keeps_23 : decode cX11_keeps 23 = .ok (.iinc 1 1, 3) := by decide +kernel
theorem dX11_keeps_26 : decode cX11_keeps 26 = .ok (.goto (-24), 3) := by decide +kernel
theorem dX11_keeps_29 : decode cX11_keeps 29 = .ok (.return_, 1) := by decide +kernel
theorem dX11_keepsAct_0 : decode cX11_keepsAct 0 = .ok (.aload_n 0, 1) := by decide +kernel
theorem dX11_keepsAct_1 : decode cX11_keepsAct 1 = .ok (.getfield 267, 3) := by decide +kernel
theorem dX11_keepsAct_4 : decode cX11_keepsAct 4 = .ok (.bipush 20, 2) := by decide +kernel
theorem dX11_keepsAct_6 : decode cX11_keepsAct 6 = .ok (.if_icmp .ne 44, 3) := by decide +kernel
theorem dX11_keepsAct_9 : decode cX11_keepsAct 9 = .ok (.bipush 34, 2) := by decide +kernel
theorem dX11_keepsAct_11 : decode cX11_keepsAct 11 = .ok (.istore_n 1, 1) := by decide +kernel
theorem dX11_keepsAct_12 : decode cX11_keepsAct 12 = .ok (.iload_n 1, 1) := by decide +kernel
theorem dX11_keepsAct_13 : decode cX11_keepsAct 13 = .ok (.sipush 680, 3) := by decide +kernel
theorem dX11_keepsAct_16 : decode cX11_keepsAct 16 = .ok (.if_icmp .ge 24, 3) := by decide +kernel
theorem dX11_keepsAct_19 : decode cX11_keepsAct 19 = .ok (.aload_n 0, 1) := by decide +kernel
theorem dX11_keepsAct_20 : decode cX11_keepsAct 20 = .ok (.getfield 52, 3) := by decide +kernel
theorem dX11_keepsAct_23 : decode cX11_keepsAct 23 = .ok (.iload_n 1, 1) := by decide +kernel
theorem dX11_keepsAct_24 : decode cX11_keepsAct 24 = .ok (.bipush 34, 2) := by decide +kernel
theorem dX11_keepsAct_26 : decode cX11_keepsAct 26 = .ok (.isub, 1) := by decide +kernel
theorem dX11_keepsAct_27 : decode cX11_keepsAct 27 = .ok (.aload_n 0, 1) := by decide +kernel
theorem dX11_keepsAct_28 : decode cX11_keepsAct 28 = .ok (.getfield 52, 3) := by decide +kernel
theorem dX11_keepsAct_31 : decode cX11_keepsAct 31 = .ok (.iload_n 1, 1) := by decide +kernel
theorem dX11_keepsAct_32 : decode cX11_keepsAct 32 = .ok (.iaload, 1) := by decide +kernel
theorem dX11_keepsAct_33 : decode cX11_keepsAct 33 = .ok (.iastore, 1) := by decide +kernel
theorem dX11_keepsAct_34 : decode cX11_keepsAct 34 = .ok (.iinc 1 1, 3) := by decide +kernel
theorem dX11_keepsAct_37 : decode cX11_keepsAct 37 = .ok (.goto (-25), 3) := by decide +kernel
theorem dX11_keepsAct_40 : decode cX11_keepsAct 40 = .ok (.aload_n 0, 1) := by decide +kernel
theorem dX11_keepsAct_41 : decode cX11_keepsAct 41 = .ok (.dup, 1) := by decide +kernel
theorem dX11_keepsAct_42 : decode cX11_keepsAct 42 = .ok (.getfield 267, 3) := by decide +kernel
theorem dX11_keepsAct_45 : decode cX11_keepsAct 45 = .ok (.iconst 1, 1) := by decide +kernel
theorem dX11_keepsAct_46 : decode cX11_keepsAct 46 = .ok (.isub, 1) := by decide +kernel
theorem dX11_keepsAct_47 : decode cX11_keepsAct 47 = .ok (.putfield 267, 3) := by decide +kernel
theorem dX11_keepsAct_50 : decode cX11_keepsAct 50 = .ok (.iconst 0, 1) := by decide +kernel
theorem dX11_keepsAct_51 : decode cX11_keepsAct 51 = .ok (.istore_n 1, 1) := by decide +kernel
theorem dX11_keepsAct_52 : decode cX11_keepsAct 52 = .ok (.iload_n 1, 1) := by decide +kernel
theorem dX11_keepsAct_53 : decode cX11_keepsAct 53 = .ok (.bipush 34, 2) := by decide +kernel
theorem dX11_keepsAct_55 : decode cX11_keepsAct 55 = .ok (.if_icmp .ge 32, 3) := by decide +kernel
theorem dX11_keepsAct_58 : decode cX11_keepsAct 58 = .ok (.aload_n 0, 1) := by decide +kernel
theorem dX11_keepsAct_59 : decode cX11_keepsAct 59 = .ok (.getfield 52, 3) := by decide +kernel
theorem dX11_keepsAct_62 : decode cX11_keepsAct 62 = .ok (.bipush 34, 2) := by decide +kernel
theorem dX11_keepsAct_64 : decode cX11_keepsAct 64 = .ok (.aload_n 0, 1) := by decide +kernel
theorem dX11_keepsAct_65 : decode cX11_keepsAct 65 = .ok (.getfield 267, 3) := by decide +kernel
theorem dX11_keepsAct_68 : decode cX11_keepsAct 68 = .ok (.imul, 1) := by decide +kernel
theorem dX11_keepsAct_69 : decode cX11_keepsAct 69 = .ok (.iload_n 1, 1) := by decide +kernel
theorem dX11_keepsAct_70 : decode cX11_keepsAct 70 = .ok (.iadd, 1) := by decide +kernel
theorem dX11_keepsAct_71 : decode cX11_keepsAct 71 = .ok (.aload_n 0, 1) := by decide +kernel
theorem dX11_keepsAct_72 : decode cX11_keepsAct 72 = .ok (.getfield 39, 3) := by decide +kernel
theorem dX11_keepsAct_75 : decode cX11_keepsAct 75 = .ok (.bipush 10, 2) := by decide +kernel
theorem dX11_keepsAct_77 : decode cX11_keepsAct 77 = .ok (.iload_n 1, 1) := by decide +kernel
theorem dX11_keepsAct_78 : decode cX11_keepsAct 78 = .ok (.iadd, 1) := by decide +kernel
theorem dX11_keepsAct_79 : decode cX11_keepsAct 79 = .ok (.iaload, 1) := by decide +kernel
theorem dX11_keepsAct_80 : decode cX11_keepsAct 80 = .ok (.iastore, 1) := by decide +kernel
theorem dX11_keepsAct_81 : decode cX11_keepsAct 81 = .ok (.iinc 1 1, 3) := by decide +kernel
theorem dX11_keepsAct_84 : decode cX11_keepsAct 84 = .ok (.goto (-32), 3) := by decide +kernel
theorem dX11_keepsAct_87 : decode cX11_keepsAct 87 = .ok (.aload_n 0, 1) := by decide +kernel
theorem dX11_keepsAct_88 : decode cX11_keepsAct 88 = .ok (.dup, 1) := by decide +kernel
theorem dX11_keepsAct_89 : decode cX11_keepsAct 89 = .ok (.getfield 267, 3) := by decide +kernel
theorem dX11_keepsAct_92 : decode cX11_keepsAct 92 = .ok (.iconst 1, 1) := by decide +kernel
theorem dX11_keepsAct_93 : decode cX11_keepsAct 93 = .ok (.iadd, 1) := by decide +kernel
theorem dX11_keepsAct_94 : decode cX11_keepsAct 94 = .ok (.putfield 267, 3) := by decide +kernel
theorem dX11_keepsAct_97 : decode cX11_keepsAct 97 = .ok (.return_, 1) := by decide +kernel
theorem dX11_laysBack_0 : decode cX11_laysBack 0 = .ok (.iconst 0, 1) := by decide +kernel
theorem dX11_laysBack_1 : decode cX11_laysBack 1 = .ok (.istore_n 1, 1) := by decide +kernel
theorem dX11_laysBack_2 : decode cX11_laysBack 2 = .ok (.iload_n 1, 1) := by decide +kernel
theorem dX11_laysBack_3 : decode cX11_laysBack 3 = .ok (.bipush 34, 2) := by decide +kernel
theorem dX11_laysBack_5 : decode cX11_laysBack 5 = .ok (.if_icmp .ge 24, 3) := by decide +kernel
theorem dX11_laysBack_8 : decode cX11_laysBack 8 = .ok (.aload_n 0, 1) := by decide +kernel
theorem dX11_laysBack_9 : decode cX11_laysBack 9 = .ok (.getfield 39, 3) := by decide +kernel
theorem dX11_laysBack_12 : decode cX11_laysBack 12 = .ok (.bipush 10, 2) := by decide +kernel
theorem dX11_laysBack_14 : decode cX11_laysBack 14 = .ok (.iload_n 1, 1) := by decide +kernel
theorem dX11_laysBack_15 : decode cX11_laysBack 15 = .ok (.iadd, 1) := by decide +kernel
theorem dX11_laysBack_16 : decode cX11_laysBack 16 = .ok (.aload_n 0, 1) := by decide +kernel
theorem dX11_laysBack_17 : decode cX11_laysBack 17 = .ok (.getfield 55, 3) := by decide +kernel
theorem dX11_laysBack_20 : decode cX11_laysBack 20 = .ok (.iload_n 1, 1) := by decide +kernel
theorem dX11_laysBack_21 : decode cX11_laysBack 21 = .ok (.iaload, 1) := by decide +kernel
theorem dX11_laysBack_22 : decode cX11_laysBack 22 = .ok (.iastore, 1) := by decide +kernel
theorem dX11_laysBack_23 : decode cX11_laysBack 23 = .ok (.iinc 1 1, 3) := by decide +kernel
theorem dX11_laysBack_26 : decode cX11_laysBack 26 = .ok (.goto (-24), 3) := by decide +kernel
theorem dX11_laysBack_29 : decode cX11_laysBack 29 = .ok (.return_, 1) := by decide +kernel
theorem dX11_undo_0 : decode cX11_undo 0 = .ok (.aload_n 0, 1) := by decide +kernel
theorem dX11_undo_1 : decode cX11_undo 1 = .ok (.getfield 267, 3) := by decide +kernel
theorem dX11_undo_4 : decode cX11_undo 4 = .ok (.ifCond .ne 5, 3) := by decide +kernel
theorem dX11_undo_7 : decode cX11_undo 7 = .ok (.iconst (-1), 1) := by decide +kernel
theorem dX11_undo_8 : decode cX11_undo 8 = .ok (.ireturn, 1) := by decide +kernel
theorem dX11_undo_9 : decode cX11_undo 9 = .ok (.aload_n 0, 1) := by decide +kernel
theorem dX11_undo_10 : decode cX11_undo 10 = .ok (.dup, 1) := by decide +kernel
theorem dX11_undo_11 : decode cX11_undo 11 = .ok (.getfield 267, 3) := by decide +kernel
theorem dX11_undo_14 : decode cX11_undo 14 = .ok (.iconst 1, 1) := by decide +kernel
theorem dX11_undo_15 : decode cX11_undo 15 = .ok (.isub, 1) := by decide +kernel
theorem dX11_undo_16 : decode cX11_undo 16 = .ok (.putfield 267, 3) := by decide +kernel
theorem dX11_undo_19 : decode cX11_undo 19 = .ok (.iconst 0, 1) := by decide +kernel
theorem dX11_undo_20 : decode cX11_undo 20 = .ok (.istore_n 1, 1) := by decide +kernel
theorem dX11_undo_21 : decode cX11_undo 21 = .ok (.iload_n 1, 1) := by decide +kernel
theorem dX11_undo_22 : decode cX11_undo 22 = .ok (.bipush 34, 2) := by decide +kernel
theorem dX11_undo_24 : decode cX11_undo 24 = .ok (.if_icmp .ge 32, 3) := by decide +kernel
theorem dX11_undo_27 : decode cX11_undo 27 = .ok (.aload_n 0, 1) := by decide +kernel
theorem dX11_undo_28 : decode cX11_undo 28 = .ok (.getfield 39, 3) := by decide +kernel
theorem dX11_undo_31 : decode cX11_undo 31 = .ok (.bipush 10, 2) := by decide +kernel
theorem dX11_undo_33 : decode cX11_undo 33 = .ok (.iload_n 1, 1) := by decide +kernel
theorem dX11_undo_34 : decode cX11_undo 34 = .ok (.iadd, 1) := by decide +kernel
theorem dX11_undo_35 : decode cX11_undo 35 = .ok (.aload_n 0, 1) := by decide +kernel
theorem dX11_undo_36 : decode cX11_undo 36 = .ok (.getfield 52, 3) := by decide +kernel
theorem dX11_undo_39 : decode cX11_undo 39 = .ok (.bipush 34, 2) := by decide +kernel
theorem dX11_undo_41 : decode cX11_undo 41 = .ok (.aload_n 0, 1) := by decide +kernel
theorem dX11_undo_42 : decode cX11_undo 42 = .ok (.getfield 267, 3) := by decide +kernel
theorem dX11_undo_45 : decode cX11_undo 45 = .ok (.imul, 1) := by decide +kernel
theorem dX11_undo_46 : decode cX11_undo 46 = .ok (.iload_n 1, 1) := by decide +kernel
theorem dX11_undo_47 : decode cX11_undo 47 = .ok (.iadd, 1) := by decide +kernel
theorem dX11_undo_48 : decode cX11_undo 48 = .ok (.iaload, 1) := by decide +kernel
theorem dX11_undo_49 : decode cX11_undo 49 = .ok (.iastore, 1) := by decide +kernel
theorem dX11_undo_50 : decode cX11_undo 50 = .ok (.iinc 1 1, 3) := by decide +kernel
theorem dX11_undo_53 : decode cX11_undo 53 = .ok (.goto (-32), 3) := by decide +kernel
theorem dX11_undo_56 : decode cX11_undo 56 = .ok (.aload_n 0, 1) := by decide +kernel
theorem dX11_undo_57 : decode cX11_undo 57 = .ok (.getfield 267, 3) := by decide +kernel
theorem dX11_undo_60 : decode cX11_undo 60 = .ok (.ireturn, 1) := by decide +kernel
set_option maxHeartbeats 4000000 in
set_option maxRecDepth 100000 in
theorem v_keepsAct (l : Launch) (D : va_G) (K : Nat → ClassId) (ad : Nat → Nat) (z : TS) (o : Ok z) : cV l yX11_keepsAct cX11_keepsAct 2 ({ frames := 0, cells := 0, slots := 0, locals := 0 }) D K ad z [.ref (ad 386)] (fun u => Ok u ∧ KM z u) := by
  refine t_enterV (by decide) (Nat.le_of_ble_eq_true rfl) rfl rfl ?_
  intro p e s m args below meth c A R Q H locs ls E hfr hlo RET G hl
  have E : mE p s m meth c cX11_keepsAct args 2 RX11 D K A := E
  have hl : lv_has ls 2 [(0, .ref (ad 386))] := hl
  refine lv_aload_n E.1 E.2.1 dX11_keepsAct_0 rfl (lv_at hl 0 rfl) ?_
  refine t_get E G 11 26 (rfl : ro 386 = 11) (C := RX11) (T := TX11) (N := 37) rfl (by decide) (by decide) (by decide) mw_fl_11_267 (fvl_i rfl) dX11_keepsAct_1 ?_
  refine lv_topi (fun v1 e2 => ?_)
  have b3 : iv 0 20 v1 := by rw [e2]; exact o.i 11 26 (rfl : ro 386 = 11)
  refine lv_bipush (v := 20) E.1 E.2.1 dX11_keepsAct_4 (by decide) ?_
  refine lv_icmp_ne (tgt := 50) E.1 E.2.1 dX11_keepsAct_6 (by decide) (fun c4 => ?_) (fun c4 => ?_)
  · skip
    have b5 : iv 0 19 v1 := ne_hi c4 b3 (by decide) (by decide)
    refine lv_iconst (v := 0) E.1 E.2.1 dX11_keepsAct_50 (by decide) ?_
    refine lv_istore_n (lv' := [(1, .int 0), (0, .ref (ad 386))]) E.1 E.2.1 dX11_keepsAct_51 rfl hl (by decide) rfl (fun ls hl => ?_)
    have LOOP52 : ∀ n : Nat, ∀ (zz7 : TS) (y6 : Int32) (H : Heap) (locs : List Loc) (ls : Array Slot), mG D A s H locs (wd K ad zz7) → Ok zz7 → KM z zz7 → iv 0 34 y6 → iv 0 19 (tI zz7 386 26) → 34 < y6.toInt + (n : Int) → lv_has ls 2 [(1, .int y6), (0, .ref (ad 386))] → W p l e R s m args below meth c H locs 0 0 Q (F0 m 52 ls []) := by
      intro n
      induction n with
      | zero =>
        intro zz7 y6 H locs ls G oo8 kk9 b11 h12 m10 hl
        exact absurd m10 (by have := b11.1; have := b11.2; omega)
      | succ n ih52 =>
        intro zz7 y6 H locs ls G oo8 kk9 b11 h12 m10 hl
        refine lv_iload_n E.1 E.2.1 dX11_keepsAct_52 rfl (lv_at hl 0 rfl) ?_
        refine lv_bipush (v := 34) E.1 E.2.1 dX11_keepsAct_53 (by decide) ?_
        refine lv_icmp_ge (tgt := 87) E.1 E.2.1 dX11_keepsAct_55 (by decide) (fun c13 => ?_) (fun c13 => ?_)
        · skip
          have b14 : iv 34 34 y6 := le_r c13 (iv_lit (lo := 34) (hi := 34) 34 (by decide) (by decide)) b11 (by decide)
          refine lv_aload_n E.1 E.2.1 dX11_keepsAct_87 rfl (lv_at hl 1 rfl) ?_
          refine lv_dup E.1 E.2.1 dX11_keepsAct_88 rfl ?_
          refine t_get E G 11 26 (rfl : ro 386 = 11) (C := RX11) (T := TX11) (N := 37) rfl (by decide) (by decide) (by decide) mw_fl_11_267 (fvl_i rfl) dX11_keepsAct_89 ?_
          refine lv_topi (fun v15 e16 => ?_)
          have b17 : iv 0 20 v15 := by rw [e16]; exact oo8.i 11 26 (rfl : ro 386 = 11)
          have b18 : iv 0 19 v15 := by rw [(e16.trans rfl)]; exact h12
          refine lv_iconst (v := 1) E.1 E.2.1 dX11_keepsAct_92 (by decide) ?_
          refine lv_iadd E.1 E.2.1 dX11_keepsAct_93 ?_
          refine lv_topi (fun v19 e20 => ?_)
          have b21 : iv 1 20 v19 := by rw [e20]; exact iv_add b18 (iv_lit (lo := 1) (hi := 1) 1 (by decide) (by decide)) (by decide) (by decide) (by decide) (by decide)
          have l22 : v19.toInt = 1 + 1 * v15.toInt := (show v19.toInt = v15.toInt + 1 by rw [e20]; exact ti_addc 1 (by decide) b18 (by decide) (by decide)).trans (by omega)
          refine t_puti E G 11 26 (rfl : ro 386 = 11) (C := RX11) (T := TX11) (N := 37) rfl (by decide) (by decide) (by decide) rfl rfl mw_fl_11_267 rfl dX11_keepsAct_94 (fun H locs G => ?_)
          obtain ⟨zz23, G, oo24, kk25, h26⟩ : ∃ u : TS, mG D A s H locs (wd K ad u) ∧ Ok u ∧ KM z u ∧ tI u 386 26 = v19 := ⟨_, G, ok_i oo8 11 (rfl : ro 386 = 11) (iv_mono b21 (by decide) (by decide)) (by decide), KF.tr kk9 (KF_i 11 (rfl : ro 386 = 11) (by decide)), sI_self⟩
          exact RET G ⟨oo24, kk25⟩ dX11_keepsAct_97
        · skip
          have b27 : iv 0 33 y6 := lt_l (Int32.not_le.mp c13) b11 (iv_lit (lo := 34) (hi := 34) 34 (by decide) (by decide)) (by decide)
          refine lv_aload_n E.1 E.2.1 dX11_keepsAct_58 rfl (lv_at hl 1 rfl) ?_
          refine t_get E G 11 25 (rfl : ro 386 = 11) (C := RX11) (T := TX11) (N := 37) rfl (by decide) (by decide) (by decide) mw_fl_11_52 (v := .ref (ad 399)) (fvl_o (n := 13) rfl) dX11_keepsAct_59 ?_
          refine lv_bipush (v := 34) E.1 E.2.1 dX11_keepsAct_62 (by decide) ?_
          refine lv_aload_n E.1 E.2.1 dX11_keepsAct_64 rfl (lv_at hl 1 rfl) ?_
          refine t_get E G 11 26 (rfl : ro 386 = 11) (C := RX11) (T := TX11) (N := 37) rfl (by decide) (by decide) (by decide) mw_fl_11_267 (fvl_i rfl) dX11_keepsAct_65 ?_
          refine lv_topi (fun v28 e29 => ?_)
          have b30 : iv 0 20 v28 := by rw [e29]; exact oo8.i 11 26 (rfl : ro 386 = 11)
          have b31 : iv 0 19 v28 := by rw [(e29.trans rfl)]; exact h12
          refine lv_imul E.1 E.2.1 dX11_keepsAct_68 ?_
          refine lv_topi (fun v32 e33 => ?_)
          have b34 : iv 0 646 v32 := by rw [e33]; exact iv_mulc' b31 34 (by decide) (by decide) (by decide) (by decide) (by decide) (by decide)
          have l35 : v32.toInt = 0 + 34 * v28.toInt := (show v32.toInt = 34 * v28.toInt by rw [e33]; exact ti_cmul 34 (by decide) (by decide) b31 (by decide) (by decide)).trans (by omega)
          refine lv_iload_n E.1 E.2.1 dX11_keepsAct_69 rfl (lv_at hl 0 rfl) ?_
          refine lv_iadd E.1 E.2.1 dX11_keepsAct_70 ?_
          refine lv_topi (fun v36 e37 => ?_)
          have b38 : iv 0 679 v36 := by rw [e37]; exact iv_add b34 b27 (by decide) (by decide) (by decide) (by decide)
          have l39 : v36.toInt = 0 + 34 * v28.toInt + 1 * y6.toInt := (show v36.toInt = v32.toInt + y6.toInt by rw [e37]; exact ti_addv b34 b27 (by decide) (by decide)).trans (by omega)
          refine lv_aload_n E.1 E.2.1 dX11_keepsAct_71 rfl (lv_at hl 1 rfl) ?_
          refine t_get E G 11 20 (rfl : ro 386 = 11) (C := RX11) (T := TX11) (N := 37) rfl (by decide) (by decide) (by decide) mw_fl_11_39 (v := .ref (ad 396)) (fvl_o (n := 10) rfl) dX11_keepsAct_72 ?_
          refine lv_bipush (v := 10) E.1 E.2.1 dX11_keepsAct_75 (by decide) ?_
          refine lv_iload_n E.1 E.2.1 dX11_keepsAct_77 rfl (lv_at hl 0 rfl) ?_
          refine lv_iadd E.1 E.2.1 dX11_keepsAct_78 ?_
          refine lv_topi (fun v40 e41 => ?_)
          have b42 : iv 10 43 v40 := by rw [e41]; exact iv_add (iv_lit (lo := 10) (hi := 10) 10 (by decide) (by decide)) b27 (by decide) (by decide) (by decide) (by decide)
          have l43 : v40.toInt = 10 + 1 * y6.toInt := (show v40.toInt = 10 + y6.toInt by rw [e41]; exact ti_cadd 10 (by decide) b27 (by decide) (by decide)).trans (by omega)
          refine t_iald E G 54 (rfl : ro 396 = 54) (by decide) (by decide) rfl (n := 127) rfl (iv_vp b42 (by decide) (by decide)) dX11_keepsAct_79 ?_
          refine lv_topi (fun v44 e45 => ?_)
          refine t_iast E G 57 (rfl : ro 399 = 57) (by decide) (by decide) rfl (n := 680) rfl (iv_vp b38 (by decide) (by decide)) dX11_keepsAct_80 (fun H locs G => ?_)
          obtain ⟨zz46, G, oo47, kk48, h49⟩ : ∃ u : TS, mG D A s H locs (wd K ad u) ∧ Ok u ∧ KM z u ∧ tI u 386 26 = v28 := ⟨_, G, ok_u oo8 57 (rfl : ro 399 = 57) (cp2 0 34 1 10 0 1 0 19 0 33 (show iv (alo 54 (v40 : Int32).toNatClampNeg) (ahi 54 (v40 : Int32).toNatClampNeg) v44 by rw [e45]; exact oo8.a 54 (rfl : ro 396 = 54) _) b31 b27 (l39.trans (by omega)) (l43.trans (by omega)) (by decide +kernel)) (by decide), KF.tr kk9 (KF_r 57 (rfl : ro 399 = 57) (by decide)), e29.symm⟩
          obtain ⟨v50, e51⟩ : ∃ w : Int32, w = y6 + (1 : Int32) := ⟨_, rfl⟩
          refine lv_iinc (v := v50) (lv' := [(1, .int v50), (0, .ref (ad 386))]) E.1 E.2.1 dX11_keepsAct_81 hl (k := 0) rfl (by rw [e51]; rfl) (by decide) rfl (fun ls hl => ?_)
          have b52 : iv 1 34 v50 := by rw [e51]; exact iv_add b27 (iv_lit (lo := 1) (hi := 1) 1 (by decide) (by decide)) (by decide) (by decide) (by decide) (by decide)
          have t53 : v50.toInt = y6.toInt + 1 := by rw [e51]; exact ti_addc 1 (by decide) b27 (by decide) (by decide)
          refine lv_goto (tgt := 52) E.1 E.2.1 dX11_keepsAct_84 (by decide) ?_
          exact ih52 zz46 v50 H locs ls G oo47 kk48 (iv_mono b52 (by decide) (by decide)) (by rw [h49]; exact iv_mono b31 (by decide) (by decide)) (by have := t53; have := m10; omega) (lv_sub hl [0, 1] rfl)
    exact LOOP52 35 z 0 H locs ls G o KF.rf (iv_mono (iv_lit (lo := 0) (hi := 0) 0 (by decide) (by decide)) (by decide) (by decide)) (by rw [e2.symm]; exact iv_mono b5 (by decide) (by decide)) (by have := (iv_lit (lo := 0) (hi := 0) 0 (by decide) (by decide)).1; omega) (lv_sub hl [0, 1] rfl)
  · skip
    have b54 : iv 20 20 v1 := iv_eq c4 (iv_lit (lo := 20) (hi := 20) 20 (by decide) (by decide))
    refine lv_bipush (v := 34) E.1 E.2.1 dX11_keepsAct_9 (by decide) ?_
    refine lv_istore_n (lv' := [(1, .int 34), (0, .ref (ad 386))]) E.1 E.2.1 dX11_keepsAct_11 rfl hl (by decide) rfl (fun ls hl => ?_)
    have LOOP12 : ∀ n : Nat, ∀ (zz56 : TS) (y55 : Int32) (H : Heap) (locs : List Loc) (ls : Array Slot), mG D A s H locs (wd K ad zz56) → Ok zz56 → KM z zz56 → iv 34 680 y55 → iv 20 20 (tI zz56 386 26) → 680 < y55.toInt + (n : Int) → lv_has ls 2 [(1, .int y55), (0, .ref (ad 386))] → W p l e R s m args below meth c H locs 0 0 Q (F0 m 12 ls []) := by
      intro n
      induction n with
      | zero =>
        intro zz56 y55 H locs ls G oo57 kk58 b60 h61 m59 hl
        exact absurd m59 (by have := b60.1; have := b60.2; omega)
      | succ n ih12 =>
        intro zz56 y55 H locs ls G oo57 kk58 b60 h61 m59 hl
        refine lv_iload_n E.1 E.2.1 dX11_keepsAct_12 rfl (lv_at hl 0 rfl) ?_
        refine lv_sipush (v := 680) E.1 E.2.1 dX11_keepsAct_13 (by decide) ?_
        refine lv_icmp_ge (tgt := 40) E.1 E.2.1 dX11_keepsAct_16 (by decide) (fun c62 => ?_) (fun c62 => ?_)
        · skip
          have b63 : iv 680 680 y55 := le_r c62 (iv_lit (lo := 680) (hi := 680) 680 (by decide) (by decide)) b60 (by decide)
          refine lv_aload_n E.1 E.2.1 dX11_keepsAct_40 rfl (lv_at hl 1 rfl) ?_
          refine lv_dup E.1 E.2.1 dX11_keepsAct_41 rfl ?_
          refine t_get E G 11 26 (rfl : ro 386 = 11) (C := RX11) (T := TX11) (N := 37) rfl (by decide) (by decide) (by decide) mw_fl_11_267 (fvl_i rfl) dX11_keepsAct_42 ?_
          refine lv_topi (fun v64 e65 => ?_)
          have b66 : iv 0 20 v64 := by rw [e65]; exact oo57.i 11 26 (rfl : ro 386 = 11)
          have b67 : iv 20 20 v64 := by rw [(e65.trans rfl)]; exact h61
          refine lv_iconst (v := 1) E.1 E.2.1 dX11_keepsAct_45 (by decide) ?_
          refine lv_isub E.1 E.2.1 dX11_keepsAct_46 ?_
          refine lv_topi (fun v68 e69 => ?_)
          have b70 : iv 19 19 v68 := by rw [e69]; exact iv_sub b67 (iv_lit (lo := 1) (hi := 1) 1 (by decide) (by decide)) (by decide) (by decide) (by decide) (by decide)
          have l71 : v68.toInt = (-1) + 1 * v64.toInt := (show v68.toInt = v64.toInt - 1 by rw [e69]; exact ti_subc 1 (by decide) b67 (by decide) (by decide)).trans (by omega)
          refine t_puti E G 11 26 (rfl : ro 386 = 11) (C := RX11) (T := TX11) (N := 37) rfl (by decide) (by decide) (by decide) rfl rfl mw_fl_11_267 rfl dX11_keepsAct_47 (fun H locs G => ?_)
          obtain ⟨zz72, G, oo73, kk74, h75⟩ : ∃ u : TS, mG D A s H locs (wd K ad u) ∧ Ok u ∧ KM z u ∧ tI u 386 26 = v68 := ⟨_, G, ok_i oo57 11 (rfl : ro 386 = 11) (iv_mono b70 (by decide) (by decide)) (by decide), KF.tr kk58 (KF_i 11 (rfl : ro 386 = 11) (by decide)), sI_self⟩
          refine lv_iconst (v := 0) E.1 E.2.1 dX11_keepsAct_50 (by decide) ?_
          refine lv_istore_n (lv' := [(1, .int 0), (0, .ref (ad 386))]) E.1 E.2.1 dX11_keepsAct_51 rfl hl (by decide) rfl (fun ls hl => ?_)
          have LOOP52 : ∀ n : Nat, ∀ (zz77 : TS) (y76 : Int32) (H : Heap) (locs : List Loc) (ls : Array Slot), mG D A s H locs (wd K ad zz77) → Ok zz77 → KM z zz77 → iv 0 34 y76 → iv 0 19 (tI zz77 386 26) → 34 < y76.toInt + (n : Int) → lv_has ls 2 [(1, .int y76), (0, .ref (ad 386))] → W p l e R s m args below meth c H locs 0 0 Q (F0 m 52 ls []) := by
            intro n
            induction n with
            | zero =>
              intro zz77 y76 H locs ls G oo78 kk79 b81 h82 m80 hl
              exact absurd m80 (by have := b81.1; have := b81.2; omega)
            | succ n ih52 =>
              intro zz77 y76 H locs ls G oo78 kk79 b81 h82 m80 hl
              refine lv_iload_n E.1 E.2.1 dX11_keepsAct_52 rfl (lv_at hl 0 rfl) ?_
              refine lv_bipush (v := 34) E.1 E.2.1 dX11_keepsAct_53 (by decide) ?_
              refine lv_icmp_ge (tgt := 87) E.1 E.2.1 dX11_keepsAct_55 (by decide) (fun c83 => ?_) (fun c83 => ?_)
              · skip
                have b84 : iv 34 34 y76 := le_r c83 (iv_lit (lo := 34) (hi := 34) 34 (by decide) (by decide)) b81 (by decide)
                refine lv_aload_n E.1 E.2.1 dX11_keepsAct_87 rfl (lv_at hl 1 rfl) ?_
                refine lv_dup E.1 E.2.1 dX11_keepsAct_88 rfl ?_
                refine t_get E G 11 26 (rfl : ro 386 = 11) (C := RX11) (T := TX11) (N := 37) rfl (by decide) (by decide) (by decide) mw_fl_11_267 (fvl_i rfl) dX11_keepsAct_89 ?_
                refine lv_topi (fun v85 e86 => ?_)
                have b87 : iv 0 20 v85 := by rw [e86]; exact oo78.i 11 26 (rfl : ro 386 = 11)
                have b88 : iv 0 19 v85 := by rw [(e86.trans rfl)]; exact h82
                refine lv_iconst (v := 1) E.1 E.2.1 dX11_keepsAct_92 (by decide) ?_
                refine lv_iadd E.1 E.2.1 dX11_keepsAct_93 ?_
                refine lv_topi (fun v89 e90 => ?_)
                have b91 : iv 1 20 v89 := by rw [e90]; exact iv_add b88 (iv_lit (lo := 1) (hi := 1) 1 (by decide) (by decide)) (by decide) (by decide) (by decide) (by decide)
                have l92 : v89.toInt = 1 + 1 * v85.toInt := (show v89.toInt = v85.toInt + 1 by rw [e90]; exact ti_addc 1 (by decide) b88 (by decide) (by decide)).trans (by omega)
                refine t_puti E G 11 26 (rfl : ro 386 = 11) (C := RX11) (T := TX11) (N := 37) rfl (by decide) (by decide) (by decide) rfl rfl mw_fl_11_267 rfl dX11_keepsAct_94 (fun H locs G => ?_)
                obtain ⟨zz93, G, oo94, kk95, h96⟩ : ∃ u : TS, mG D A s H locs (wd K ad u) ∧ Ok u ∧ KM z u ∧ tI u 386 26 = v89 := ⟨_, G, ok_i oo78 11 (rfl : ro 386 = 11) (iv_mono b91 (by decide) (by decide)) (by decide), KF.tr kk79 (KF_i 11 (rfl : ro 386 = 11) (by decide)), sI_self⟩
                exact RET G ⟨oo94, kk95⟩ dX11_keepsAct_97
              · skip
                have b97 : iv 0 33 y76 := lt_l (Int32.not_le.mp c83) b81 (iv_lit (lo := 34) (hi := 34) 34 (by decide) (by decide)) (by decide)
                refine lv_aload_n E.1 E.2.1 dX11_keepsAct_58 rfl (lv_at hl 1 rfl) ?_
                refine t_get E G 11 25 (rfl : ro 386 = 11) (C := RX11) (T := TX11) (N := 37) rfl (by decide) (by decide) (by decide) mw_fl_11_52 (v := .ref (ad 399)) (fvl_o (n := 13) rfl) dX11_keepsAct_59 ?_
                refine lv_bipush (v := 34) E.1 E.2.1 dX11_keepsAct_62 (by decide) ?_
                refine lv_aload_n E.1 E.2.1 dX11_keepsAct_64 rfl (lv_at hl 1 rfl) ?_
                refine t_get E G 11 26 (rfl : ro 386 = 11) (C := RX11) (T := TX11) (N := 37) rfl (by decide) (by decide) (by decide) mw_fl_11_267 (fvl_i rfl) dX11_keepsAct_65 ?_
                refine lv_topi (fun v98 e99 => ?_)
                have b100 : iv 0 20 v98 := by rw [e99]; exact oo78.i 11 26 (rfl : ro 386 = 11)
                have b101 : iv 0 19 v98 := by rw [(e99.trans rfl)]; exact h82
                refine lv_imul E.1 E.2.1 dX11_keepsAct_68 ?_
                refine lv_topi (fun v102 e103 => ?_)
                have b104 : iv 0 646 v102 := by rw [e103]; exact iv_mulc' b101 34 (by decide) (by decide) (by decide) (by decide) (by decide) (by decide)
                have l105 : v102.toInt = 0 + 34 * v98.toInt := (show v102.toInt = 34 * v98.toInt by rw [e103]; exact ti_cmul 34 (by decide) (by decide) b101 (by decide) (by decide)).trans (by omega)
                refine lv_iload_n E.1 E.2.1 dX11_keepsAct_69 rfl (lv_at hl 0 rfl) ?_
                refine lv_iadd E.1 E.2.1 dX11_keepsAct_70 ?_
                refine lv_topi (fun v106 e107 => ?_)
                have b108 : iv 0 679 v106 := by rw [e107]; exact iv_add b104 b97 (by decide) (by decide) (by decide) (by decide)
                have l109 : v106.toInt = 0 + 34 * v98.toInt + 1 * y76.toInt := (show v106.toInt = v102.toInt + y76.toInt by rw [e107]; exact ti_addv b104 b97 (by decide) (by decide)).trans (by omega)
                refine lv_aload_n E.1 E.2.1 dX11_keepsAct_71 rfl (lv_at hl 1 rfl) ?_
                refine t_get E G 11 20 (rfl : ro 386 = 11) (C := RX11) (T := TX11) (N := 37) rfl (by decide) (by decide) (by decide) mw_fl_11_39 (v := .ref (ad 396)) (fvl_o (n := 10) rfl) dX11_keepsAct_72 ?_
                refine lv_bipush (v := 10) E.1 E.2.1 dX11_keepsAct_75 (by decide) ?_
                refine lv_iload_n E.1 E.2.1 dX11_keepsAct_77 rfl (lv_at hl 0 rfl) ?_
                refine lv_iadd E.1 E.2.1 dX11_keepsAct_78 ?_
                refine lv_topi (fun v110 e111 => ?_)
                have b112 : iv 10 43 v110 := by rw [e111]; exact iv_add (iv_lit (lo := 10) (hi := 10) 10 (by decide) (by decide)) b97 (by decide) (by decide) (by decide) (by decide)
                have l113 : v110.toInt = 10 + 1 * y76.toInt := (show v110.toInt = 10 + y76.toInt by rw [e111]; exact ti_cadd 10 (by decide) b97 (by decide) (by decide)).trans (by omega)
                refine t_iald E G 54 (rfl : ro 396 = 54) (by decide) (by decide) rfl (n := 127) rfl (iv_vp b112 (by decide) (by decide)) dX11_keepsAct_79 ?_
                refine lv_topi (fun v114 e115 => ?_)
                refine t_iast E G 57 (rfl : ro 399 = 57) (by decide) (by decide) rfl (n := 680) rfl (iv_vp b108 (by decide) (by decide)) dX11_keepsAct_80 (fun H locs G => ?_)
                obtain ⟨zz116, G, oo117, kk118, h119⟩ : ∃ u : TS, mG D A s H locs (wd K ad u) ∧ Ok u ∧ KM z u ∧ tI u 386 26 = v98 := ⟨_, G, ok_u oo78 57 (rfl : ro 399 = 57) (cp2 0 34 1 10 0 1 0 19 0 33 (show iv (alo 54 (v110 : Int32).toNatClampNeg) (ahi 54 (v110 : Int32).toNatClampNeg) v114 by rw [e115]; exact oo78.a 54 (rfl : ro 396 = 54) _) b101 b97 (l109.trans (by omega)) (l113.trans (by omega)) (by decide +kernel)) (by decide), KF.tr kk79 (KF_r 57 (rfl : ro 399 = 57) (by decide)), e99.symm⟩
                obtain ⟨v120, e121⟩ : ∃ w : Int32, w = y76 + (1 : Int32) := ⟨_, rfl⟩
                refine lv_iinc (v := v120) (lv' := [(1, .int v120), (0, .ref (ad 386))]) E.1 E.2.1 dX11_keepsAct_81 hl (k := 0) rfl (by rw [e121]; rfl) (by decide) rfl (fun ls hl => ?_)
                have b122 : iv 1 34 v120 := by rw [e121]; exact iv_add b97 (iv_lit (lo := 1) (hi := 1) 1 (by decide) (by decide)) (by decide) (by decide) (by decide) (by decide)
                have t123 : v120.toInt = y76.toInt + 1 := by rw [e121]; exact ti_addc 1 (by decide) b97 (by decide) (by decide)
                refine lv_goto (tgt := 52) E.1 E.2.1 dX11_keepsAct_84 (by decide) ?_
                exact ih52 zz116 v120 H locs ls G oo117 kk118 (iv_mono b122 (by decide) (by decide)) (by rw [h119]; exact iv_mono b101 (by decide) (by decide)) (by have := t123; have := m80; omega) (lv_sub hl [0, 1] rfl)
          exact LOOP52 35 zz72 0 H locs ls G oo73 kk74 (iv_mono (iv_lit (lo := 0) (hi := 0) 0 (by decide) (by decide)) (by decide) (by decide)) (by rw [h75]; exact iv_mono b70 (by decide) (by decide)) (by have := (iv_lit (lo := 0) (hi := 0) 0 (by decide) (by decide)).1; omega) (lv_sub hl [0, 1] rfl)
        · skip
          have b124 : iv 34 679 y55 := lt_l (Int32.not_le.mp c62) b60 (iv_lit (lo := 680) (hi := 680) 680 (by decide) (by decide)) (by decide)
          refine lv_aload_n E.1 E.2.1 dX11_keepsAct_19 rfl (lv_at hl 1 rfl) ?_
          refine t_get E G 11 25 (rfl : ro 386 = 11) (C := RX11) (T := TX11) (N := 37) rfl (by decide) (by decide) (by decide) mw_fl_11_52 (v := .ref (ad 399)) (fvl_o (n := 13) rfl) dX11_keepsAct_20 ?_
          refine lv_iload_n E.1 E.2.1 dX11_keepsAct_23 rfl (lv_at hl 0 rfl) ?_
          refine lv_bipush (v := 34) E.1 E.2.1 dX11_keepsAct_24 (by decide) ?_
          refine lv_isub E.1 E.2.1 dX11_keepsAct_26 ?_
          refine lv_topi (fun v125 e126 => ?_)
          have b127 : iv 0 645 v125 := by rw [e126]; exact iv_sub b124 (iv_lit (lo := 34) (hi := 34) 34 (by decide) (by decide)) (by decide) (by decide) (by decide) (by decide)
          have l128 : v125.toInt = (-34) + 1 * y55.toInt := (show v125.toInt = y55.toInt - 34 by rw [e126]; exact ti_subc 34 (by decide) b124 (by decide) (by decide)).trans (by omega)
          refine lv_aload_n E.1 E.2.1 dX11_keepsAct_27 rfl (lv_at hl 1 rfl) ?_
          refine t_get E G 11 25 (rfl : ro 386 = 11) (C := RX11) (T := TX11) (N := 37) rfl (by decide) (by decide) (by decide) mw_fl_11_52 (v := .ref (ad 399)) (fvl_o (n := 13) rfl) dX11_keepsAct_28 ?_
          refine lv_iload_n E.1 E.2.1 dX11_keepsAct_31 rfl (lv_at hl 0 rfl) ?_
          refine t_iald E G 57 (rfl : ro 399 = 57) (by decide) (by decide) rfl (n := 680) rfl (iv_vp b124 (by decide) (by decide)) dX11_keepsAct_32 ?_
          refine lv_topi (fun v129 e130 => ?_)
          refine t_iast E G 57 (rfl : ro 399 = 57) (by decide) (by decide) rfl (n := 680) rfl (iv_vp b127 (by decide) (by decide)) dX11_keepsAct_33 (fun H locs G => ?_)
          obtain ⟨zz131, G, oo132, kk133, h134⟩ : ∃ u : TS, mG D A s H locs (wd K ad u) ∧ Ok u ∧ KM z u ∧ tI u 386 26 = (tI zz56 386 26) := ⟨_, G, ok_u oo57 57 (rfl : ro 399 = 57) (cp1 (-34) 1 0 1 34 679 (show iv (alo 57 (y55 : Int32).toNatClampNeg) (ahi 57 (y55 : Int32).toNatClampNeg) v129 by rw [e130]; exact oo57.a 57 (rfl : ro 399 = 57) _) b124 (l128.trans (by omega)) (by omega) (by decide +kernel)) (by decide), KF.tr kk58 (KF_r 57 (rfl : ro 399 = 57) (by decide)), rfl⟩
          obtain ⟨v135, e136⟩ : ∃ w : Int32, w = y55 + (1 : Int32) := ⟨_, rfl⟩
          refine lv_iinc (v := v135) (lv' := [(1, .int v135), (0, .ref (ad 386))]) E.1 E.2.1 dX11_keepsAct_34 hl (k := 0) rfl (by rw [e136]; rfl) (by decide) rfl (fun ls hl => ?_)
          have b137 : iv 35 680 v135 := by rw [e136]; exact iv_add b124 (iv_lit (lo := 1) (hi := 1) 1 (by decide) (by decide)) (by decide) (by decide) (by decide) (by decide)
          have t138 : v135.toInt = y55.toInt + 1 := by rw [e136]; exact ti_addc 1 (by decide) b124 (by decide) (by decide)
          refine lv_goto (tgt := 12) E.1 E.2.1 dX11_keepsAct_37 (by decide) ?_
          exact ih12 zz131 v135 H locs ls G oo132 kk133 (iv_mono b137 (by decide) (by decide)) (by rw [h134]; exact h61) (by have := t138; have := m59; omega) (lv_sub hl [0, 1] rfl)
    exact LOOP12 647 z 34 H locs ls G o KF.rf (iv_mono (iv_lit (lo := 34) (hi := 34) 34 (by decide) (by decide)) (by decide) (by decide)) (by rw [e2.symm]; exact iv_mono b54 (by decide) (by decide)) (by have := (iv_lit (lo := 34) (hi := 34) 34 (by decide) (by decide)).1; omega) (lv_sub hl [0, 1] rfl)
set_option maxHeartbeats 4000000 in
set_option maxRecDepth 100000 in
theorem v_undo (l : Launch) (D : va_G) (K : Nat → ClassId) (ad : Nat → Nat) (z : TS) (o : Ok z) : cI l yX11_undo cX11_undo 2 .int ({ frames := 0, cells := 0, slots := 0, locals := 0 }) D K ad z [.ref (ad 386)] (fun r u => Ok u ∧ KM z u) := by
  refine t_enterI (by decide) (Nat.le_of_ble_eq_true rfl) rfl rfl ?_
  intro p e s m args below meth c A R Q H locs ls E hfr hlo RET G hl
  have E : mE p s m meth c cX11_undo args 2 RX11 D K A := E
  have hl : lv_has ls 2 [(0, .ref (ad 386))] := hl
  refine lv_aload_n E.1 E.2.1 dX11_undo_0 rfl (lv_at hl 0 rfl) ?_
  refine t_get E G 11 26 (rfl : ro 386 = 11) (C := RX11) (T := TX11) (N := 37) rfl (by decide) (by decide) (by decide) mw_fl_11_267 (fvl_i rfl) dX11_undo_1 ?_
  refine lv_topi (fun v1 e2 => ?_)
  have b3 : iv 0 20 v1 := by rw [e2]; exact o.i 11 26 (rfl : ro 386 = 11)
  refine lv_if_ne (tgt := 9) E.1 E.2.1 dX11_undo_4 (by decide) (fun c4 => ?_) (fun c4 => ?_)
  · skip
    have b5 : iv 1 20 v1 := ne_lo c4 b3 (by decide) (by decide)
    refine lv_aload_n E.1 E.2.1 dX11_undo_9 rfl (lv_at hl 0 rfl) ?_
    refine lv_dup E.1 E.2.1 dX11_undo_10 rfl ?_
    refine t_get E G 11 26 (rfl : ro 386 = 11) (C := RX11) (T := TX11) (N := 37) rfl (by decide) (by decide) (by decide) mw_fl_11_267 (fvl_i rfl) dX11_undo_11 ?_
    refine m_ci v1 e2.symm ?_
    refine lv_iconst (v := 1) E.1 E.2.1 dX11_undo_14 (by decide) ?_
    refine lv_isub E.1 E.2.1 dX11_undo_15 ?_
    refine lv_topi (fun v6 e7 => ?_)
    have b8 : iv 0 19 v6 := by rw [e7]; exact iv_sub b5 (iv_lit (lo := 1) (hi := 1) 1 (by decide) (by decide)) (by decide) (by decide) (by decide) (by decide)
    have l9 : v6.toInt = (-1) + 1 * v1.toInt := (show v6.toInt = v1.toInt - 1 by rw [e7]; exact ti_subc 1 (by decide) b5 (by decide) (by decide)).trans (by omega)
    refine t_puti E G 11 26 (rfl : ro 386 = 11) (C := RX11) (T := TX11) (N := 37) rfl (by decide) (by decide) (by decide) rfl rfl mw_fl_11_267 rfl dX11_undo_16 (fun H locs G => ?_)
    obtain ⟨zz10, G, oo11, kk12, h13⟩ : ∃ u : TS, mG D A s H locs (wd K ad u) ∧ Ok u ∧ KM z u ∧ tI u 386 26 = v6 := ⟨_, G, ok_i o 11 (rfl : ro 386 = 11) (iv_mono b8 (by decide) (by decide)) (by decide), KF.tr KF.rf (KF_i 11 (rfl : ro 386 = 11) (by decide)), sI_self⟩
    refine lv_iconst (v := 0) E.1 E.2.1 dX11_undo_19 (by decide) ?_
    refine lv_istore_n (lv' := [(1, .int 0), (0, .ref (ad 386))]) E.1 E.2.1 dX11_undo_20 rfl hl (by decide) rfl (fun ls hl => ?_)
    have LOOP21 : ∀ n : Nat, ∀ (zz15 : TS) (y14 : Int32) (H : Heap) (locs : List Loc) (ls : Array Slot), mG D A s H locs (wd K ad zz15) → Ok zz15 → KM z zz15 → iv 0 34 y14 → iv 0 19 (tI zz15 386 26) → 34 < y14.toInt + (n : Int) → lv_has ls 2 [(1, .int y14), (0, .ref (ad 386))] → W p l e R s m args below meth c H locs 0 0 Q (F0 m 21 ls []) := by
      intro n
      induction n with
      | zero =>
        intro zz15 y14 H locs ls G oo16 kk17 b19 h20 m18 hl
        exact absurd m18 (by have := b19.1; have := b19.2; omega)
      | succ n ih21 =>
        intro zz15 y14 H locs ls G oo16 kk17 b19 h20 m18 hl
        refine lv_iload_n E.1 E.2.1 dX11_undo_21 rfl (lv_at hl 0 rfl) ?_
        refine lv_bipush (v := 34) E.1 E.2.1 dX11_undo_22 (by decide) ?_
        refine lv_icmp_ge (tgt := 56) E.1 E.2.1 dX11_undo_24 (by decide) (fun c21 => ?_) (fun c21 => ?_)
        · skip
          have b22 : iv 34 34 y14 := le_r c21 (iv_lit (lo := 34) (hi := 34) 34 (by decide) (by decide)) b19 (by decide)
          refine lv_aload_n E.1 E.2.1 dX11_undo_56 rfl (lv_at hl 1 rfl) ?_
          refine t_get E G 11 26 (rfl : ro 386 = 11) (C := RX11) (T := TX11) (N := 37) rfl (by decide) (by decide) (by decide) mw_fl_11_267 (fvl_i rfl) dX11_undo_57 ?_
          refine lv_topi (fun v23 e24 => ?_)
          have b25 : iv 0 20 v23 := by rw [e24]; exact oo16.i 11 26 (rfl : ro 386 = 11)
          have b26 : iv 0 19 v23 := by rw [(e24.trans rfl)]; exact h20
          exact RET G ⟨oo16, kk17⟩ rfl dX11_undo_60
        · skip
          have b27 : iv 0 33 y14 := lt_l (Int32.not_le.mp c21) b19 (iv_lit (lo := 34) (hi := 34) 34 (by decide) (by decide)) (by decide)
          refine lv_aload_n E.1 E.2.1 dX11_undo_27 rfl (lv_at hl 1 rfl) ?_
          refine t_get E G 11 20 (rfl : ro 386 = 11) (C := RX11) (T := TX11) (N := 37) rfl (by decide) (by decide) (by decide) mw_fl_11_39 (v := .ref (ad 396)) (fvl_o (n := 10) rfl) dX11_undo_28 ?_
          refine lv_bipush (v := 10) E.1 E.2.1 dX11_undo_31 (by decide) ?_
          refine lv_iload_n E.1 E.2.1 dX11_undo_33 rfl (lv_at hl 0 rfl) ?_
          refine lv_iadd E.1 E.2.1 dX11_undo_34 ?_
          refine lv_topi (fun v28 e29 => ?_)
          have b30 : iv 10 43 v28 := by rw [e29]; exact iv_add (iv_lit (lo := 10) (hi := 10) 10 (by decide) (by decide)) b27 (by decide) (by decide) (by decide) (by decide)
          have l31 : v28.toInt = 10 + 1 * y14.toInt := (show v28.toInt = 10 + y14.toInt by rw [e29]; exact ti_cadd 10 (by decide) b27 (by decide) (by decide)).trans (by omega)
          refine lv_aload_n E.1 E.2.1 dX11_undo_35 rfl (lv_at hl 1 rfl) ?_
          refine t_get E G 11 25 (rfl : ro 386 = 11) (C := RX11) (T := TX11) (N := 37) rfl (by decide) (by decide) (by decide) mw_fl_11_52 (v := .ref (ad 399)) (fvl_o (n := 13) rfl) dX11_undo_36 ?_
          refine lv_bipush (v := 34) E.1 E.2.1 dX11_undo_39 (by decide) ?_
          refine lv_aload_n E.1 E.2.1 dX11_undo_41 rfl (lv_at hl 1 rfl) ?_
          refine t_get E G 11 26 (rfl : ro 386 = 11) (C := RX11) (T := TX11) (N := 37) rfl (by decide) (by decide) (by decide) mw_fl_11_267 (fvl_i rfl) dX11_undo_42 ?_
          refine lv_topi (fun v32 e33 => ?_)
          have b34 : iv 0 20 v32 := by rw [e33]; exact oo16.i 11 26 (rfl : ro 386 = 11)
          have b35 : iv 0 19 v32 := by rw [(e33.trans rfl)]; exact h20
          refine lv_imul E.1 E.2.1 dX11_undo_45 ?_
          refine lv_topi (fun v36 e37 => ?_)
          have b38 : iv 0 646 v36 := by rw [e37]; exact iv_mulc' b35 34 (by decide) (by decide) (by decide) (by decide) (by decide) (by decide)
          have l39 : v36.toInt = 0 + 34 * v32.toInt := (show v36.toInt = 34 * v32.toInt by rw [e37]; exact ti_cmul 34 (by decide) (by decide) b35 (by decide) (by decide)).trans (by omega)
          refine lv_iload_n E.1 E.2.1 dX11_undo_46 rfl (lv_at hl 0 rfl) ?_
          refine lv_iadd E.1 E.2.1 dX11_undo_47 ?_
          refine lv_topi (fun v40 e41 => ?_)
          have b42 : iv 0 679 v40 := by rw [e41]; exact iv_add b38 b27 (by decide) (by decide) (by decide) (by decide)
          have l43 : v40.toInt = 0 + 34 * v32.toInt + 1 * y14.toInt := (show v40.toInt = v36.toInt + y14.toInt by rw [e41]; exact ti_addv b38 b27 (by decide) (by decide)).trans (by omega)
          refine t_iald E G 57 (rfl : ro 399 = 57) (by decide) (by decide) rfl (n := 680) rfl (iv_vp b42 (by decide) (by decide)) dX11_undo_48 ?_
          refine lv_topi (fun v44 e45 => ?_)
          refine t_iast E G 54 (rfl : ro 396 = 54) (by decide) (by decide) rfl (n := 127) rfl (iv_vp b30 (by decide) (by decide)) dX11_undo_49 (fun H locs G => ?_)
          obtain ⟨zz46, G, oo47, kk48, h49⟩ : ∃ u : TS, mG D A s H locs (wd K ad u) ∧ Ok u ∧ KM z u ∧ tI u 386 26 = v32 := ⟨_, G, ok_u oo16 54 (rfl : ro 396 = 54) (cp2 10 1 0 0 1 34 0 33 0 19 (show iv (alo 57 (v40 : Int32).toNatClampNeg) (ahi 57 (v40 : Int32).toNatClampNeg) v44 by rw [e45]; exact oo16.a 57 (rfl : ro 399 = 57) _) b27 b35 (l31.trans (by omega)) (l43.trans (by omega)) (by decide +kernel)) (by decide), KF.tr kk17 (KF_r 54 (rfl : ro 396 = 54) (by decide)), e33.symm⟩
          obtain ⟨v50, e51⟩ : ∃ w : Int32, w = y14 + (1 : Int32) := ⟨_, rfl⟩
          refine lv_iinc (v := v50) (lv' := [(1, .int v50), (0, .ref (ad 386))]) E.1 E.2.1 dX11_undo_50 hl (k := 0) rfl (by rw [e51]; rfl) (by decide) rfl (fun ls hl => ?_)
          have b52 : iv 1 34 v50 := by rw [e51]; exact iv_add b27 (iv_lit (lo := 1) (hi := 1) 1 (by decide) (by decide)) (by decide) (by decide) (by decide) (by decide)
          have t53 : v50.toInt = y14.toInt + 1 := by rw [e51]; exact ti_addc 1 (by decide) b27 (by decide) (by decide)
          refine lv_goto (tgt := 21) E.1 E.2.1 dX11_undo_53 (by decide) ?_
          exact ih21 zz46 v50 H locs ls G oo47 kk48 (iv_mono b52 (by decide) (by decide)) (by rw [h49]; exact iv_mono b35 (by decide) (by decide)) (by have := t53; have := m18; omega) (lv_sub hl [0, 1] rfl)
    exact LOOP21 35 zz10 0 H locs ls G oo11 kk12 (iv_mono (iv_lit (lo := 0) (hi := 0) 0 (by decide) (by decide)) (by decide) (by decide)) (by rw [h13]; exact iv_mono b8 (by decide) (by decide)) (by have := (iv_lit (lo := 0) (hi := 0) 0 (by decide) (by decide)).1; omega) (lv_sub hl [0, 1] rfl)
  · skip
    have b54 : iv 0 0 v1 := iv_eq c4 (iv_lit (lo := 0) (hi := 0) 0 (by decide) (by decide))
    refine lv_iconst (v := (-1)) E.1 E.2.1 dX11_undo_7 (by decide) ?_
    exact RET G ⟨o, KF.rf⟩ rfl dX11_undo_8
set_option maxHeartbeats 4000000 in
set_option maxRecDepth 100000 in
theorem v_keeps (l : Launch) (D : va_G) (K : Nat → ClassId) (ad : Nat → Nat) (z : TS) (o : Ok z) : cV l yX11_keeps cX11_keeps 2 ({ frames := 0, cells := 0, slots := 0, locals := 0 }) D K ad z [.ref (ad 386)] (fun u => Ok u ∧ KM z u) := by
  refine t_enterV (by decide) (Nat.le_of_ble_eq_true rfl) rfl rfl ?_
  intro p e s m args below meth c A R Q H locs ls E hfr hlo RET G hl
  have E : mE p s m meth c cX11_keeps args 2 RX11 D K A := E
  have hl : lv_has ls 2 [(0, .ref (ad 386))] := hl
  refine lv_iconst (v := 0) E.1 E.2.1 dX11_keeps_0 (by decide) ?_
  refine lv_istore_n (lv' := [(1, .int 0), (0, .ref (ad 386))]) E.1 E.2.1 dX11_keeps_1 rfl hl (by decide) rfl (fun ls hl => ?_)
  have LOOP2 : ∀ n : Nat, ∀ (zz2 : TS) (y1 : Int32) (H : Heap) (locs : List Loc) (ls : Array Slot), mG D A s H locs (wd K ad zz2) → Ok zz2 → KM z zz2 → iv 0 34 y1 → 34 < y1.toInt + (n : Int) → lv_has ls 2 [(1, .int y1), (0, .ref (ad 386))] → W p l e R s m args below meth c H locs 0 0 Q (F0 m 2 ls []) := by
    intro n
    induction n with
    | zero =>
      intro zz2 y1 H locs ls G oo3 kk4 b6 m5 hl
      exact absurd m5 (by have := b6.1; have := b6.2; omega)
    | succ n ih2 =>
      intro zz2 y1 H locs ls G oo3 kk4 b6 m5 hl
      refine lv_iload_n E.1 E.2.1 dX11_keeps_2 rfl (lv_at hl 0 rfl) ?_
      refine lv_bipush (v := 34) E.1 E.2.1 dX11_keeps_3 (by decide) ?_
      refine lv_icmp_ge (tgt := 29) E.1 E.2.1 dX11_keeps_5 (by decide) (fun c7 => ?_) (fun c7 => ?_)
      · skip
        have b8 : iv 34 34 y1 := le_r c7 (iv_lit (lo := 34) (hi := 34) 34 (by decide) (by decide)) b6 (by decide)
        exact RET G ⟨oo3, kk4⟩ dX11_keeps_29
      · skip
        have b9 : iv 0 33 y1 := lt_l (Int32.not_le.mp c7) b6 (iv_lit (lo := 34) (hi := 34) 34 (by decide) (by decide)) (by decide)
        refine lv_aload_n E.1 E.2.1 dX11_keeps_8 rfl (lv_at hl 1 rfl) ?_
        refine t_get E G 11 27 (rfl : ro 386 = 11) (C := RX11) (T := TX11) (N := 37) rfl (by decide) (by decide) (by decide) mw_fl_11_55 (v := .ref (ad 400)) (fvl_o (n := 14) rfl) dX11_keeps_9 ?_
        refine lv_iload_n E.1 E.2.1 dX11_keeps_12 rfl (lv_at hl 0 rfl) ?_
        refine lv_aload_n E.1 E.2.1 dX11_keeps_13 rfl (lv_at hl 1 rfl) ?_
        refine t_get E G 11 20 (rfl : ro 386 = 11) (C := RX11) (T := TX11) (N := 37) rfl (by decide) (by decide) (by decide) mw_fl_11_39 (v := .ref (ad 396)) (fvl_o (n := 10) rfl) dX11_keeps_14 ?_
        refine lv_bipush (v := 10) E.1 E.2.1 dX11_keeps_17 (by decide) ?_
        refine lv_iload_n E.1 E.2.1 dX11_keeps_19 rfl (lv_at hl 0 rfl) ?_
        refine lv_iadd E.1 E.2.1 dX11_keeps_20 ?_
        refine lv_topi (fun v10 e11 => ?_)
        have b12 : iv 10 43 v10 := by rw [e11]; exact iv_add (iv_lit (lo := 10) (hi := 10) 10 (by decide) (by decide)) b9 (by decide) (by decide) (by decide) (by decide)
        have l13 : v10.toInt = 10 + 1 * y1.toInt := (show v10.toInt = 10 + y1.toInt by rw [e11]; exact ti_cadd 10 (by decide) b9 (by decide) (by decide)).trans (by omega)
        refine t_iald E G 54 (rfl : ro 396 = 54) (by decide) (by decide) rfl (n := 127) rfl (iv_vp b12 (by decide) (by decide)) dX11_keeps_21 ?_
        refine lv_topi (fun v14 e15 => ?_)
        refine t_iast E G 58 (rfl : ro 400 = 58) (by decide) (by decide) rfl (n := 34) rfl (iv_vp b9 (by decide) (by decide)) dX11_keeps_22 (fun H locs G => ?_)
        obtain ⟨zz16, G, oo17, kk18⟩ : ∃ u : TS, mG D A s H locs (wd K ad u) ∧ Ok u ∧ KM z u := ⟨_, G, ok_u oo3 58 (rfl : ro 400 = 58) (cp1 0 1 10 1 0 33 (show iv (alo 54 (v10 : Int32).toNatClampNeg) (ahi 54 (v10 : Int32).toNatClampNeg) v14 by rw [e15]; exact oo3.a 54 (rfl : ro 396 = 54) _) b9 (by omega) (l13.trans (by omega)) (by decide +kernel)) (by decide), KF.tr kk4 (KF_r 58 (rfl : ro 400 = 58) (by decide))⟩
        obtain ⟨v19, e20⟩ : ∃ w : Int32, w = y1 + (1 : Int32) := ⟨_, rfl⟩
        refine lv_iinc (v := v19) (lv' := [(1, .int v19), (0, .ref (ad 386))]) E.1 E.2.1 dX11_keeps_23 hl (k := 0) rfl (by rw [e20]; rfl) (by decide) rfl (fun ls hl => ?_)
        have b21 : iv 1 34 v19 := by rw [e20]; exact iv_add b9 (iv_lit (lo := 1) (hi := 1) 1 (by decide) (by decide)) (by decide) (by decide) (by decide) (by decide)
        have t22 : v19.toInt = y1.toInt + 1 := by rw [e20]; exact ti_addc 1 (by decide) b9 (by decide) (by decide)
        refine lv_goto (tgt := 2) E.1 E.2.1 dX11_keeps_26 (by decide) ?_
        exact ih2 zz16 v19 H locs ls G oo17 kk18 (iv_mono b21 (by decide) (by decide)) (by have := t22; have := m5; omega) (lv_sub hl [0, 1] rfl)
  exact LOOP2 35 z 0 H locs ls G o KF.rf (iv_mono (iv_lit (lo := 0) (hi := 0) 0 (by decide) (by decide)) (by decide) (by decide)) (by have := (iv_lit (lo := 0) (hi := 0) 0 (by decide) (by decide)).1; omega) (lv_sub hl [0, 1] rfl)
set_option maxHeartbeats 4000000 in
set_option maxRecDepth 100000 in
theorem v_laysBack (l : Launch) (D : va_G) (K : Nat → ClassId) (ad : Nat → Nat) (z : TS) (o : Ok z) : cV l yX11_laysBack cX11_laysBack 2 ({ frames := 0, cells := 0, slots := 0, locals := 0 }) D K ad z [.ref (ad 386)] (fun u => Ok u ∧ KM z u) := by
  refine t_enterV (by decide) (Nat.le_of_ble_eq_true rfl) rfl rfl ?_
  intro p e s m args below meth c A R Q H locs ls E hfr hlo RET G hl
  have E : mE p s m meth c cX11_laysBack args 2 RX11 D K A := E
  have hl : lv_has ls 2 [(0, .ref (ad 386))] := hl
  refine lv_iconst (v := 0) E.1 E.2.1 dX11_laysBack_0 (by decide) ?_
  refine lv_istore_n (lv' := [(1, .int 0), (0, .ref (ad 386))]) E.1 E.2.1 dX11_laysBack_1 rfl hl (by decide) rfl (fun ls hl => ?_)
  have LOOP2 : ∀ n : Nat, ∀ (zz2 : TS) (y1 : Int32) (H : Heap) (locs : List Loc) (ls : Array Slot), mG D A s H locs (wd K ad zz2) → Ok zz2 → KM z zz2 → iv 0 34 y1 → 34 < y1.toInt + (n : Int) → lv_has ls 2 [(1, .int y1), (0, .ref (ad 386))] → W p l e R s m args below meth c H locs 0 0 Q (F0 m 2 ls []) := by
    intro n
    induction n with
    | zero =>
      intro zz2 y1 H locs ls G oo3 kk4 b6 m5 hl
      exact absurd m5 (by have := b6.1; have := b6.2; omega)
    | succ n ih2 =>
      intro zz2 y1 H locs ls G oo3 kk4 b6 m5 hl
      refine lv_iload_n E.1 E.2.1 dX11_laysBack_2 rfl (lv_at hl 0 rfl) ?_
      refine lv_bipush (v := 34) E.1 E.2.1 dX11_laysBack_3 (by decide) ?_
      refine lv_icmp_ge (tgt := 29) E.1 E.2.1 dX11_laysBack_5 (by decide) (fun c7 => ?_) (fun c7 => ?_)
      · skip
        have b8 : iv 34 34 y1 := le_r c7 (iv_lit (lo := 34) (hi := 34) 34 (by decide) (by decide)) b6 (by decide)
        exact RET G ⟨oo3, kk4⟩ dX11_laysBack_29
      · skip
        have b9 : iv 0 33 y1 := lt_l (Int32.not_le.mp c7) b6 (iv_lit (lo := 34) (hi := 34) 34 (by decide) (by decide)) (by decide)
        refine lv_aload_n E.1 E.2.1 dX11_laysBack_8 rfl (lv_at hl 1 rfl) ?_
        refine t_get E G 11 20 (rfl : ro 386 = 11) (C := RX11) (T := TX11) (N := 37) rfl (by decide) (by decide) (by decide) mw_fl_11_39 (v := .ref (ad 396)) (fvl_o (n := 10) rfl) dX11_laysBack_9 ?_
        refine lv_bipush (v := 10) E.1 E.2.1 dX11_laysBack_12 (by decide) ?_
        refine lv_iload_n E.1 E.2.1 dX11_laysBack_14 rfl (lv_at hl 0 rfl) ?_
        refine lv_iadd E.1 E.2.1 dX11_laysBack_15 ?_
        refine lv_topi (fun v10 e11 => ?_)
        have b12 : iv 10 43 v10 := by rw [e11]; exact iv_add (iv_lit (lo := 10) (hi := 10) 10 (by decide) (by decide)) b9 (by decide) (by decide) (by decide) (by decide)
        have l13 : v10.toInt = 10 + 1 * y1.toInt := (show v10.toInt = 10 + y1.toInt by rw [e11]; exact ti_cadd 10 (by decide) b9 (by decide) (by decide)).trans (by omega)
        refine lv_aload_n E.1 E.2.1 dX11_laysBack_16 rfl (lv_at hl 1 rfl) ?_
        refine t_get E G 11 27 (rfl : ro 386 = 11) (C := RX11) (T := TX11) (N := 37) rfl (by decide) (by decide) (by decide) mw_fl_11_55 (v := .ref (ad 400)) (fvl_o (n := 14) rfl) dX11_laysBack_17 ?_
        refine lv_iload_n E.1 E.2.1 dX11_laysBack_20 rfl (lv_at hl 0 rfl) ?_
        refine t_iald E G 58 (rfl : ro 400 = 58) (by decide) (by decide) rfl (n := 34) rfl (iv_vp b9 (by decide) (by decide)) dX11_laysBack_21 ?_
        refine lv_topi (fun v14 e15 => ?_)
        refine t_iast E G 54 (rfl : ro 396 = 54) (by decide) (by decide) rfl (n := 127) rfl (iv_vp b12 (by decide) (by decide)) dX11_laysBack_22 (fun H locs G => ?_)
        obtain ⟨zz16, G, oo17, kk18⟩ : ∃ u : TS, mG D A s H locs (wd K ad u) ∧ Ok u ∧ KM z u := ⟨_, G, ok_u oo3 54 (rfl : ro 396 = 54) (cp1 10 1 0 1 0 33 (show iv (alo 58 (y1 : Int32).toNatClampNeg) (ahi 58 (y1 : Int32).toNatClampNeg) v14 by rw [e15]; exact oo3.a 58 (rfl : ro 400 = 58) _) b9 (l13.trans (by omega)) (by omega) (by decide +kernel)) (by decide), KF.tr kk4 (KF_r 54 (rfl : ro 396 = 54) (by decide))⟩
        obtain ⟨v19, e20⟩ : ∃ w : Int32, w = y1 + (1 : Int32) := ⟨_, rfl⟩
        refine lv_iinc (v := v19) (lv' := [(1, .int v19), (0, .ref (ad 386))]) E.1 E.2.1 dX11_laysBack_23 hl (k := 0) rfl (by rw [e20]; rfl) (by decide) rfl (fun ls hl => ?_)
        have b21 : iv 1 34 v19 := by rw [e20]; exact iv_add b9 (iv_lit (lo := 1) (hi := 1) 1 (by decide) (by decide)) (by decide) (by decide) (by decide) (by decide)
        have t22 : v19.toInt = y1.toInt + 1 := by rw [e20]; exact ti_addc 1 (by decide) b9 (by decide) (by decide)
        refine lv_goto (tgt := 2) E.1 E.2.1 dX11_laysBack_26 (by decide) ?_
        exact ih2 zz16 v19 H locs ls G oo17 kk18 (iv_mono b21 (by decide) (by decide)) (by have := t22; have := m5; omega) (lv_sub hl [0, 1] rfl)
  exact LOOP2 35 z 0 H locs ls G o KF.rf (iv_mono (iv_lit (lo := 0) (hi := 0) 0 (by decide) (by decide)) (by decide) (by decide)) (by have := (iv_lit (lo := 0) (hi := 0) 0 (by decide) (by decide)).1; omega) (lv_sub hl [0, 1] rfl)
