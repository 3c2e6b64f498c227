theorem mw_code_X1_tellCorner : (Cond.code yX1_tellCorner cX1_tellCorner 7 none : Cond) ∈ cw := cw_of (List.mem_append_right _ (List.mem_append_right _ (List.mem_append_right _ (List.mem_append_right _ (List.mem_append_left _ (List.mem_of_getElem? (i := 105) rfl)))))) (by decide +kernel)
theorem mw_code_X1_tellWalker : (Cond.code yX1_tellWalker cX1_tellWalker 2 none : Cond) ∈ cw := cw_of (List.mem_append_right _ (List.mem_append_right _ (List.mem_append_right _ (List.mem_append_right _ (List.mem_append_left _ (List.mem_of_getElem? (i := 101) rfl)))))) (by decide +kernel)
theorem mw_code_X4_worth : (Cond.code yX4_worth cX4_worth 5 (some .long) : Cond) ∈ cw := cw_of (List.mem_append_right _ (List.mem_append_right _ (List.mem_append_right _ (List.mem_append_right _ (List.mem_append_left _ (List.mem_of_getElem? (i := 114) rfl)))))) (by decide +kernel)
theorem mw_ini_1 : (Cond.initialized RX1 : Cond) ∈ cw := cw_of (List.mem_append_right _ (List.mem_append_left _ (List.mem_of_getElem? (i := 11) (by decide +kernel)))) (by decide +kernel)
theorem mw_inst_X1_tellCorner : (Cond.instanceMethod yX1_tellCorner : Cond) ∈ cw := cw_of (List.mem_append_right _ (List.mem_append_right _ (List.mem_append_right _ (List.mem_append_right _ (List.mem_append_left _ (List.mem_of_getElem? (i := 104) (by decide +kernel))))))) (by decide +kernel)
theorem mw_inst_X1_tellWalker : (Cond.instanceMethod yX1_tellWalker : Cond) ∈ cw := cw_of (List.mem_append_right _ (List.mem_append_right _ (List.mem_append_right _ (List.mem_append_right _ (List.mem_append_left _ (List.mem_of_getElem? (i := 100) (by decide +kernel))))))) (by decide +kernel)
theorem mw_inst_X4_worth : (Cond.instanceMethod yX4_worth : Cond) ∈ cw := cw_of (List.mem_append_right _ (List.mem_append_right _ (List.mem_append_right _ (List.mem_append_right _ (List.mem_append_left _ (List.mem_of_getElem? (i := 112) (by decide +kernel))))))) (by decide +kernel)
theorem mw_ml_1_111 : (Cond.methodLink RX1 111 yX1_tellWalker : Cond) ∈ cw := cw_of (List.mem_append_right _ (List.mem_append_right _ (List.mem_append_right _ (List.mem_append_right _ (List.mem_append_left _ (List.mem_of_getElem? (i := 98) (by decide +kernel))))))) (by decide +kernel)
theorem mw_ml_1_115 : (Cond.methodLink RX1 115 yX1_tellCorner : Cond) ∈ cw := cw_of (List.mem_append_right _ (List.mem_append_right _ (List.mem_append_right _ (List.mem_append_right _ (List.mem_append_left _ (List.mem_of_getElem? (i := 102) (by decide +kernel))))))) (by decide +kernel)
theorem mw_ml_1_118 : (Cond.methodLink RX1 118 yX4_worth : Cond) ∈ cw := cw_of (List.mem_append_right _ (List.mem_append_right _ (List.mem_append_right _ (List.mem_append_right _ (List.mem_append_left _ (List.mem_of_getElem? (i := 111) (by decide +kernel))))))) (by decide +kernel)
theorem mw_sel_X1_tellCorner : (Cond.selects RX1 yX1_tellCorner yX1_tellCorner : Cond) ∈ cw := cw_of (List.mem_append_left _ (List.mem_of_getElem? (i := 33) (by decide +kernel))) (by decide +kernel)
theorem mw_sel_X1_tellWalker : (Cond.selects RX1 yX1_tellWalker yX1_tellWalker : Cond) ∈ cw := cw_of (List.mem_append_left _ (List.mem_of_getElem? (i := 32) (by decide +kernel))) (by decide +kernel)
theorem mw_sel_X4_worth : (Cond.selects RX4 yX4_worth yX4_worth : Cond) ∈ cw := cw_of (List.mem_append_right _ (List.mem_append_right _ (List.mem_append_right _ (List.mem_append_right _ (List.mem_append_left _ (List.mem_of_getElem? (i := 113) (by decide +kernel))))))) (by decide +kernel)
theorem dX1_ruledGoal_0 : decode cX1_ruledGoal 0 = .ok (.aload_n 0, 1) := by decide +kernel
theorem dX1_ruledGoal_1 : decode cX1_ruledGoal 1 = .ok (.getfield 12, 3) := by decide +kernel
theorem dX1_ruledGoal_4 : decode cX1_ruledGoal 4 = .ok (.getfield 64, 3) := by decide +kernel
theorem dX1_ruledGoal_7 : decode cX1_ruledGoal 7 = .ok (.iload_n 1, 1) := by decide +kernel
theorem dX1_ruledGoal_8 : decode cX1_ruledGoal 8 = .ok (.iaload, 1) := by decide +kernel
theorem dX1_ruledGoal_9 : decode cX1_ruledGoal 9 = .ok (.istore_n 2, 1) := by decide +kernel
theorem dX1_ruledGoal_10 : decode cX1_ruledGoal 10 = .ok (.iload_n 2, 1) := by decide +kernel
theorem dX1_ruledGoal_11 : decode cX1_ruledGoal 11 = .ok (.istore_n 3, 1) := by decide +kernel
theorem dX1_ruledGoal_12 : decode cX1_ruledGoal 12 = .ok (.lconst 0, 1) := by decide +kernel
theorem dX1_ruledGoal_13 : decode cX1_ruledGoal 13 = .ok (.lstore 4, 2) := by decide +kernel
theorem dX1_ruledGoal_15 : decode cX1_ruledGoal 15 = .ok (.aload_n 0, 1) := by decide +kernel
theorem dX1_ruledGoal_16 : decode cX1_ruledGoal 16 = .ok (.iload_n 1, 1) := by decide +kernel
theorem dX1_ruledGoal_17 : decode cX1_ruledGoal 17 = .ok (.invokevirtual 111, 3) := by decide +kernel
theorem dX1_ruledGoal_20 : decode cX1_ruledGoal 20 = .ok (.iconst 0, 1) := by decide +kernel
theorem dX1_ruledGoal_21 : decode cX1_ruledGoal 21 = .ok (.istore 6, 2) := by decide +kernel
theorem dX1_ruledGoal_23 : decode cX1_ruledGoal 23 = .ok (.iload 6, 2) := by decide +kernel
theorem dX1_ruledGoal_25 : decode cX1_ruledGoal 25 = .ok (.aload_n 0, 1) := by decide +kernel
theorem dX1_ruledGoal_26 : decode cX1_ruledGoal 26 = .ok (.getfield 31, 3) := by decide +kernel
theorem dX1_ruledGoal_29 : decode cX1_ruledGoal 29 = .ok (.getfield 105, 3) := by decide +kernel
theorem dX1_ruledGoal_32 : decode cX1_ruledGoal 32 = .ok (.if_icmp .ge 67, 3) := by decide +kernel
theorem dX1_ruledGoal_35 : decode cX1_ruledGoal 35 = .ok (.iload 6, 2) := by decide +kernel
theorem dX1_ruledGoal_37 : decode cX1_ruledGoal 37 = .ok (.iload_n 2, 1) := by decide +kernel
theorem dX1_ruledGoal_38 : decode cX1_ruledGoal 38 = .ok (.if_icmp .eq 20, 3) := by decide +kernel
theorem dX1_ruledGoal_41 : decode cX1_ruledGoal 41 = .ok (.aload_n 0, 1) := by decide +kernel
theorem dX1_ruledGoal_42 : decode cX1_ruledGoal 42 = .ok (.getfield 31, 3) := by decide +kernel
theorem dX1_ruledGoal_45 : decode cX1_ruledGoal 45 = .ok (.getfield 108, 3) := by decide +kernel
theorem dX1_ruledGoal_48 : decode cX1_ruledGoal 48 = .ok (.iload_n 2, 1) := by decide +kernel
theorem dX1_ruledGoal_49 : decode cX1_ruledGoal 49 = .ok (.iaload, 1) := by decide +kernel
theorem dX1_ruledGoal_50 : decode cX1_ruledGoal 50 = .ok (.iload 6, 2) := by decide +kernel
theorem dX1_ruledGoal_52 : decode cX1_ruledGoal 52 = .ok (.ishr, 1) := by decide +kernel
theorem dX1_ruledGoal_53 : decode cX1_ruledGoal 53 = .ok (.iconst 1, 1) := by decide +kernel
theorem dX1_ruledGoal_54 : decode cX1_ruledGoal 54 = .ok (.iand, 1) := by decide +kernel
theorem dX1_ruledGoal_55 : decode cX1_ruledGoal 55 = .ok (.ifCond .eq 38, 3) := by decide +kernel
theorem dX1_ruledGoal_58 : decode cX1_ruledGoal 58 = .ok (.aload_n 0, 1) := by decide +kernel
theorem dX1_ruledGoal_59 : decode cX1_ruledGoal 59 = .ok (.iload_n 1, 1) := by decide +kernel
theorem dX1_ruledGoal_60 : decode cX1_ruledGoal 60 = .ok (.iload 6, 2) := by decide +kernel
theorem dX1_ruledGoal_62 : decode cX1_ruledGoal 62 = .ok (.invokevirtual 115, 3) := by decide +kernel
theorem dX1_ruledGoal_65 : decode cX1_ruledGoal 65 = .ok (.aload_n 0, 1) := by decide +kernel
theorem dX1_ruledGoal_66 : decode cX1_ruledGoal 66 = .ok (.getfield 38, 3) := by decide +kernel
theorem dX1_ruledGoal_69 : decode cX1_ruledGoal 69 = .ok (.aload_n 0, 1) := by decide +kernel
theorem dX1_ruledGoal_70 : decode cX1_ruledGoal 70 = .ok (.getfield 25, 3) := by decide +kernel
theorem dX1_ruledGoal_73 : decode cX1_ruledGoal 73 = .ok (.invokevirtual 118, 3) := by decide +kernel
theorem dX1_ruledGoal_76 : decode cX1_ruledGoal 76 = .ok (.lstore 7, 2) := by decide +kernel
theorem dX1_ruledGoal_78 : decode cX1_ruledGoal 78 = .ok (.lload 7, 2) := by decide +kernel
theorem dX1_ruledGoal_80 : decode cX1_ruledGoal 80 = .ok (.lload 4, 2) := by decide +kernel
theorem dX1_ruledGoal_82 : decode cX1_ruledGoal 82 = .ok (.lcmp, 1) := by decide +kernel
theorem dX1_ruledGoal_83 : decode cX1_ruledGoal 83 = .ok (.ifCond .le 10, 3) := by decide +kernel
theorem dX1_ruledGoal_86 : decode cX1_ruledGoal 86 = .ok (.lload 7, 2) := by decide +kernel
theorem dX1_ruledGoal_88 : decode cX1_ruledGoal 88 = .ok (.lstore 4, 2) := by decide +kernel
theorem dX1_ruledGoal_90 : decode cX1_ruledGoal 90 = .ok (.iload 6, 2) := by decide +kernel
theorem dX1_ruledGoal_92 : decode cX1_ruledGoal 92 = .ok (.istore_n 3, 1) := by decide +kernel
theorem dX1_ruledGoal_93 : decode cX1_ruledGoal 93 = .ok (.iinc 6 1, 3) := by decide +kernel
theorem dX1_ruledGoal_96 : decode cX1_ruledGoal 96 = .ok (.goto (-73), 3) := by decide +kernel
theorem dX1_ruledGoal_99 : decode cX1_ruledGoal 99 = .ok (.iload_n 3, 1) := by decide +kernel
theorem dX1_ruledGoal_100 : decode cX1_ruledGoal 100 = .ok (.ireturn, 1) := by decide +kernel
theorem hd_X1_tellCorner : yX1_tellCorner.cls ≠ "java/lang/invoke/MethodHandle" ∧ yX1_tellCorner.cls ≠ "java/lang/invoke/VarHandle" ∧ (parseMethodDescriptor yX1_tellCorner.desc).map (fun d => d.parameters.length) = some 2 := ⟨by decide +kernel, by decide +kernel, by decide +kernel⟩
theorem hd_X1_tellWalker : yX1_tellWalker.cls ≠ "java/lang/invoke/MethodHandle" ∧ yX1_tellWalker.cls ≠ "java/lang/invoke/VarHandle" ∧ (parseMethodDescriptor yX1_tellWalker.desc).map (fun d => d.parameters.length) = some 1 := ⟨by decide +kernel, by decide +kernel, by decide +kernel⟩
theorem hd_X4_worth : yX4_worth.cls ≠ "java/lang/invoke/MethodHandle" ∧ yX4_worth.cls ≠ "java/lang/invoke/VarHandle" ∧ (parseMethodDescriptor yX4_worth.desc).map (fun d => d.parameters.length) = some 1 := ⟨by decide +kernel, by decide +kernel, by decide +kernel⟩
set_option maxHeartbeats 4000000 in
set_option maxRecDepth 100000 in
theorem c_ruledGoal (l : Launch) (D : va_G) (K : Nat → ClassId) (ad : Nat → Nat) (z : TS) (o : Ok z) (x1 : Int32) (bx1 : iv 0 4 x1) : cI l yX1_ruledGoal cX1_ruledGoal 9 .int ({ frames := 3, cells := 0, slots := 0, locals := 74 }) D K ad z [.ref (ad 324), .int x1] (fun r u => Ok u ∧ KC z u ∧ iv 0 7 r) := by
  refine t_enterI (by decide) (Nat.le_of_ble_eq_true rfl) rfl rfl ?_
  intro p e s m args below meth c A R Q H locs ls E hfr hlo RET G hl
  have E : mE p s m meth c cX1_ruledGoal args 9 RX1 D K A := E
  have hl : lv_has ls 9 [(0, .ref (ad 324)), (1, .int x1)] := hl
  refine lv_aload_n E.1 E.2.1 dX1_ruledGoal_0 rfl (lv_at hl 0 rfl) ?_
  refine t_get E G 1 0 (rfl : ro 324 = 1) (C := RX1) (T := TX1) (N := 6) rfl (by decide) (by decide) (by decide) mw_fl_1_12 (v := .ref (ad 325)) (fvl_o (n := 1) rfl) dX1_ruledGoal_1 ?_
  refine t_get E G 6 0 (rfl : ro 325 = 6) (C := RX6) (T := TX6) (N := 8) rfl (by decide) (by decide) (by decide) mw_fl_1_64 (v := .ref (ad 326)) (fvl_o (n := 1) rfl) dX1_ruledGoal_4 ?_
  refine lv_iload_n E.1 E.2.1 dX1_ruledGoal_7 rfl (lv_at hl 1 rfl) ?_
  refine t_iald E G 21 (rfl : ro 326 = 21) (by decide) (by decide) rfl (n := 5) rfl (iv_vp bx1 (by decide) (by decide)) dX1_ruledGoal_8 ?_
  refine lv_topi (fun v1 e2 => ?_)
  have b3 : iv 0 7 v1 := by rw [e2]; exact o.ac 21 (rfl : ro 326 = 21) (by decide) _
  refine lv_istore_n (lv' := [(2, .int v1), (0, .ref (ad 324)), (1, .int x1)]) E.1 E.2.1 dX1_ruledGoal_9 rfl hl (by decide) rfl (fun ls hl => ?_)
  refine lv_iload_n E.1 E.2.1 dX1_ruledGoal_10 rfl (lv_at hl 0 rfl) ?_
  refine lv_istore_n (lv' := [(3, .int v1), (2, .int v1), (0, .ref (ad 324)), (1, .int x1)]) E.1 E.2.1 dX1_ruledGoal_11 rfl hl (by decide) rfl (fun ls hl => ?_)
  refine lv_lconst (v := 0) E.1 E.2.1 dX1_ruledGoal_12 (by decide) ?_
  refine lv_lstore (lv' := [(4, .long 0), (3, .int v1), (2, .int v1), (0, .ref (ad 324)), (1, .int x1)]) E.1 E.2.1 dX1_ruledGoal_13 hl (by decide) rfl (fun ls hl => ?_)
  refine lv_aload_n E.1 E.2.1 dX1_ruledGoal_15 rfl (lv_at hl 3 rfl) ?_
  refine lv_iload_n E.1 E.2.1 dX1_ruledGoal_16 rfl (lv_at hl 4 rfl) ?_
  refine t_vv E G hl (c_tellWalker l D K ad z o x1 (iv_mono bx1 (by decide) (by decide))) 1 (rfl : ro 324 = 1) (by decide) rfl rfl 1 rfl mw_code_X1_tellWalker mw_ini_1 mw_ml_1_111 mw_inst_X1_tellWalker mw_sel_X1_tellWalker hd_X1_tellWalker ⟨Nat.le_trans (by decide) hfr, Nat.le_trans (by decide) hlo⟩ rfl rfl rfl (Nat.le_of_ble_eq_true rfl) dX1_ruledGoal_17 (fun zz4 H locs hp6 G => ?_)
  obtain ⟨oo7, kk8⟩ := hp6
  have kk9 : KC z zz4 := KC.tr KC.rf kk8
  refine lv_iconst (v := 0) E.1 E.2.1 dX1_ruledGoal_20 (by decide) ?_
  refine lv_istore (lv' := [(6, .int 0), (4, .long 0), (3, .int v1), (2, .int v1), (0, .ref (ad 324)), (1, .int x1)]) E.1 E.2.1 dX1_ruledGoal_21 hl (by decide) rfl (fun ls hl => ?_)
  have LOOP23 : ∀ n : Nat, ∀ (zz13 : TS) (y10 : Int32) (y11 : Int64) (y12 : Int32) (H : Heap) (locs : List Loc) (ls : Array Slot), mG D A s H locs (wd K ad zz13) → Ok zz13 → KC z zz13 → iv 0 8 y10 → iv 0 7 y12 → 8 < y10.toInt + (n : Int) → lv_has ls 9 [(6, .int y10), (4, .long y11), (3, .int y12), (2, .int v1), (0, .ref (ad 324)), (1, .int x1)] → W p l e R s m args below meth c H locs 0 0 Q (F0 m 23 ls []) := by
    intro n
    induction n with
    | zero =>
      intro zz13 y10 y11 y12 H locs ls G oo14 kk15 b17 b18 m16 hl
      exact absurd m16 (by have := b17.1; have := b17.2; omega)
    | succ n ih23 =>
      intro zz13 y10 y11 y12 H locs ls G oo14 kk15 b17 b18 m16 hl
      refine lv_iload E.1 E.2.1 dX1_ruledGoal_23 (lv_at hl 0 rfl) ?_
      refine lv_aload_n E.1 E.2.1 dX1_ruledGoal_25 rfl (lv_at hl 4 rfl) ?_
      refine t_get E G 1 4 (rfl : ro 324 = 1) (C := RX1) (T := TX1) (N := 6) rfl (by decide) (by decide) (by decide) mw_fl_1_31 (fvl_d rfl) dX1_ruledGoal_26 ?_
      obtain ⟨qq19, eqq19⟩ : ∃ q : Nat, q = tP zz13 324 4 := ⟨_, rfl⟩
      have aqq19 : at_ 8 qq19 = true := by rw [eqq19]; exact oo14.p 1 4 (rfl : ro 324 = 1) (by decide)
      rw [← eqq19]
      refine t_get E G 8 0 (at_ro (i := 0) aqq19 (by decide) : ro qq19 = 8) (C := RX8) (T := TX8) (N := 10) rfl (by decide) (by decide) (by decide) mw_fl_1_105 (fvl_i rfl) dX1_ruledGoal_29 ?_
      refine lv_topi (fun v20 e21 => ?_)
      have b22 : iv 0 8 v20 := by rw [e21]; exact oo14.i 8 0 (at_ro (i := 0) aqq19 (by decide) : ro qq19 = 8)
      refine lv_icmp_ge (tgt := 99) E.1 E.2.1 dX1_ruledGoal_32 (by decide) (fun c23 => ?_) (fun c23 => ?_)
      · skip
        refine lv_iload_n E.1 E.2.1 dX1_ruledGoal_99 rfl (lv_at hl 2 rfl) ?_
        exact RET G ⟨oo14, kk15, (iv_mono b18 (by decide) (by decide))⟩ rfl dX1_ruledGoal_100
      · skip
        have b24 : iv 0 7 y10 := lt_l (Int32.not_le.mp c23) b17 b22 (by decide)
        have b25 : iv 1 8 v20 := lt_r (Int32.not_le.mp c23) b17 b22 (by decide)
        refine lv_iload E.1 E.2.1 dX1_ruledGoal_35 (lv_at hl 0 rfl) ?_
        refine lv_iload_n E.1 E.2.1 dX1_ruledGoal_37 rfl (lv_at hl 3 rfl) ?_
        refine lv_icmp_eq (tgt := 58) E.1 E.2.1 dX1_ruledGoal_38 (by decide) (fun c26 => ?_) (fun c26 => ?_)
        · skip
          refine lv_aload_n E.1 E.2.1 dX1_ruledGoal_58 rfl (lv_at hl 4 rfl) ?_
          refine lv_iload_n E.1 E.2.1 dX1_ruledGoal_59 rfl (lv_at hl 5 rfl) ?_
          refine lv_iload E.1 E.2.1 dX1_ruledGoal_60 (lv_at hl 0 rfl) ?_
          refine t_vv E G hl (c_tellCorner l D K ad zz13 oo14 x1 (iv_mono bx1 (by decide) (by decide)) y10 (iv_mono b24 (by decide) (by decide))) 1 (rfl : ro 324 = 1) (by decide) rfl rfl 2 rfl mw_code_X1_tellCorner mw_ini_1 mw_ml_1_115 mw_inst_X1_tellCorner mw_sel_X1_tellCorner hd_X1_tellCorner ⟨Nat.le_trans (by decide) hfr, Nat.le_trans (by decide) hlo⟩ rfl rfl rfl (Nat.le_of_ble_eq_true rfl) dX1_ruledGoal_62 (fun zz27 H locs hp29 G => ?_)
          obtain ⟨oo30, kk31⟩ := hp29
          have kk32 : KC z zz27 := KC.tr kk15 kk31
          refine lv_aload_n E.1 E.2.1 dX1_ruledGoal_65 rfl (lv_at hl 4 rfl) ?_
          refine t_get E G 1 5 (rfl : ro 324 = 1) (C := RX1) (T := TX1) (N := 6) rfl (by decide) (by decide) (by decide) mw_fl_1_38 (fvl_d rfl) dX1_ruledGoal_66 ?_
          obtain ⟨qq33, eqq33⟩ : ∃ q : Nat, q = tP zz27 324 5 := ⟨_, rfl⟩
          have aqq33 : at_ 4 qq33 = true := by rw [eqq33]; exact oo30.p 1 5 (rfl : ro 324 = 1) (by decide)
          rw [← eqq33]
          refine lv_aload_n E.1 E.2.1 dX1_ruledGoal_69 rfl (lv_at hl 4 rfl) ?_
          refine t_get E G 1 3 (rfl : ro 324 = 1) (C := RX1) (T := TX1) (N := 6) rfl (by decide) (by decide) (by decide) mw_fl_1_25 (v := .ref (ad 334)) (fvl_o (n := 10) rfl) dX1_ruledGoal_70 ?_
          refine t_vl E G hl (r_worth l D K ad zz27 oo30 qq33 aqq33) 4 (at_ro (i := 0) aqq33 (by decide) : ro qq33 = 4) (by decide) rfl rfl 1 rfl mw_code_X4_worth mw_ini_4 mw_ml_1_118 mw_inst_X4_worth mw_sel_X4_worth hd_X4_worth ⟨Nat.le_trans (by decide) hfr, Nat.le_trans (by decide) hlo⟩ rfl rfl rfl (Nat.le_of_ble_eq_true rfl) dX1_ruledGoal_73 (fun r35 zz34 H locs hp36 G => ?_)
          obtain ⟨oo37, kk38⟩ := hp36
          have kk39 : KC z zz34 := KC.tr kk32 kk38
          refine lv_lstore (lv' := [(7, .long r35), (6, .int y10), (4, .long y11), (3, .int y12), (2, .int v1), (0, .ref (ad 324)), (1, .int x1)]) E.1 E.2.1 dX1_ruledGoal_76 hl (by decide) rfl (fun ls hl => ?_)
          refine lv_lload E.1 E.2.1 dX1_ruledGoal_78 (lv_at hl 0 rfl) ?_
          refine lv_lload E.1 E.2.1 dX1_ruledGoal_80 (lv_at hl 2 rfl) ?_
          refine W.lcmp E.1 E.2.1 dX1_ruledGoal_82 ?_
          refine lv_topi (fun v40 e41 => ?_)
          have b42 : iv (-1) 1 v40 := by rw [e41]; exact lgc_iv _ _
          refine lv_if_le (tgt := 93) E.1 E.2.1 dX1_ruledGoal_83 (by decide) (fun c43 => ?_) (fun c43 => ?_)
          · skip
            have b44 : iv (-1) 0 v40 := le_l c43 b42 (iv_lit (lo := 0) (hi := 0) 0 (by decide) (by decide)) (by decide)
            obtain ⟨v45, e46⟩ : ∃ w : Int32, w = y10 + (1 : Int32) := ⟨_, rfl⟩
            refine lv_iinc (v := v45) (lv' := [(6, .int v45), (7, .long r35), (4, .long y11), (3, .int y12), (2, .int v1), (0, .ref (ad 324)), (1, .int x1)]) E.1 E.2.1 dX1_ruledGoal_93 hl (k := 1) rfl (by rw [e46]; rfl) (by decide) rfl (fun ls hl => ?_)
            have b47 : iv 1 8 v45 := by rw [e46]; exact iv_add b24 (iv_lit (lo := 1) (hi := 1) 1 (by decide) (by decide)) (by decide) (by decide) (by decide) (by decide)
            have t48 : v45.toInt = y10.toInt + 1 := by rw [e46]; exact ti_addc 1 (by decide) b24 (by decide) (by decide)
            refine lv_goto (tgt := 23) E.1 E.2.1 dX1_ruledGoal_96 (by decide) ?_
            exact ih23 zz34 v45 y11 y12 H locs ls G oo37 kk39 (iv_mono b47 (by decide) (by decide)) (iv_mono b18 (by decide) (by decide)) (by have := t48; have := m16; omega) (lv_sub hl [0, 2, 3, 4, 5, 6] rfl)
          · skip
            have b49 : iv 1 1 v40 := lt_r (Int32.not_le.mp c43) (iv_lit (lo := 0) (hi := 0) 0 (by decide) (by decide)) b42 (by decide)
            refine lv_lload E.1 E.2.1 dX1_ruledGoal_86 (lv_at hl 0 rfl) ?_
            refine lv_lstore (lv' := [(4, .long r35), (7, .long r35), (6, .int y10), (3, .int y12), (2, .int v1), (0, .ref (ad 324)), (1, .int x1)]) E.1 E.2.1 dX1_ruledGoal_88 hl (by decide) rfl (fun ls hl => ?_)
            refine lv_iload E.1 E.2.1 dX1_ruledGoal_90 (lv_at hl 2 rfl) ?_
            refine lv_istore_n (lv' := [(3, .int y10), (4, .long r35), (7, .long r35), (6, .int y10), (2, .int v1), (0, .ref (ad 324)), (1, .int x1)]) E.1 E.2.1 dX1_ruledGoal_92 rfl hl (by decide) rfl (fun ls hl => ?_)
            obtain ⟨v50, e51⟩ : ∃ w : Int32, w = y10 + (1 : Int32) := ⟨_, rfl⟩
            refine lv_iinc (v := v50) (lv' := [(6, .int v50), (3, .int y10), (4, .long r35), (7, .long r35), (2, .int v1), (0, .ref (ad 324)), (1, .int x1)]) E.1 E.2.1 dX1_ruledGoal_93 hl (k := 3) rfl (by rw [e51]; rfl) (by decide) rfl (fun ls hl => ?_)
            have b52 : iv 1 8 v50 := by rw [e51]; exact iv_add b24 (iv_lit (lo := 1) (hi := 1) 1 (by decide) (by decide)) (by decide) (by decide) (by decide) (by decide)
            have t53 : v50.toInt = y10.toInt + 1 := by rw [e51]; exact ti_addc 1 (by decide) b24 (by decide) (by decide)
            refine lv_goto (tgt := 23) E.1 E.2.1 dX1_ruledGoal_96 (by decide) ?_
            exact ih23 zz34 v50 r35 y10 H locs ls G oo37 kk39 (iv_mono b52 (by decide) (by decide)) (iv_mono b24 (by decide) (by decide)) (by have := t53; have := m16; omega) (lv_sub hl [0, 2, 1, 4, 5, 6] rfl)
        · skip
          refine lv_aload_n E.1 E.2.1 dX1_ruledGoal_41 rfl (lv_at hl 4 rfl) ?_
          refine t_get E G 1 4 (rfl : ro 324 = 1) (C := RX1) (T := TX1) (N := 6) rfl (by decide) (by decide) (by decide) mw_fl_1_31 (fvl_d rfl) dX1_ruledGoal_42 ?_
          rw [eqq19.symm]
          refine t_get E G 8 4 (at_ro (i := 0) aqq19 (by decide) : ro qq19 = 8) (C := RX8) (T := TX8) (N := 10) rfl (by decide) (by decide) (by decide) mw_fl_1_108 (v := .ref (ad (qq19 + 1))) (fvl_o (n := 1) rfl) dX1_ruledGoal_45 ?_
          refine lv_iload_n E.1 E.2.1 dX1_ruledGoal_48 rfl (lv_at hl 3 rfl) ?_
          refine t_iald E G 24 (at_ro (i := 1) aqq19 (by decide) : ro (qq19 + 1) = 24) (by decide) (by decide) rfl (n := 8) rfl (iv_vp b3 (by decide) (by decide)) dX1_ruledGoal_49 ?_
          refine lv_topi (fun v55 e56 => ?_)
          refine lv_iload E.1 E.2.1 dX1_ruledGoal_50 (lv_at hl 0 rfl) ?_
          refine lv_ishr E.1 E.2.1 dX1_ruledGoal_52 ?_
          refine lv_topi (fun v57 e58 => ?_)
          refine lv_iconst (v := 1) E.1 E.2.1 dX1_ruledGoal_53 (by decide) ?_
          refine lv_iand E.1 E.2.1 dX1_ruledGoal_54 ?_
          refine lv_topi (fun v59 e60 => ?_)
          have b61 : iv 0 1 v59 := by rw [e60]; exact iv_and (iv_lit (lo := 1) (hi := 1) 1 (by decide) (by decide)) (by decide)
          refine lv_if_eq (tgt := 93) E.1 E.2.1 dX1_ruledGoal_55 (by decide) (fun c62 => ?_) (fun c62 => ?_)
          · skip
            have b63 : iv 0 0 v59 := iv_eq c62 (iv_lit (lo := 0) (hi := 0) 0 (by decide) (by decide))
            obtain ⟨v64, e65⟩ : ∃ w : Int32, w = y10 + (1 : Int32) := ⟨_, rfl⟩
            refine lv_iinc (v := v64) (lv' := [(6, .int v64), (4, .long y11), (3, .int y12), (2, .int v1), (0, .ref (ad 324)), (1, .int x1)]) E.1 E.2.1 dX1_ruledGoal_93 hl (k := 0) rfl (by rw [e65]; rfl) (by decide) rfl (fun ls hl => ?_)
            have b66 : iv 1 8 v64 := by rw [e65]; exact iv_add b24 (iv_lit (lo := 1) (hi := 1) 1 (by decide) (by decide)) (by decide) (by decide) (by decide) (by decide)
            have t67 : v64.toInt = y10.toInt + 1 := by rw [e65]; exact ti_addc 1 (by decide) b24 (by decide) (by decide)
            refine lv_goto (tgt := 23) E.1 E.2.1 dX1_ruledGoal_96 (by decide) ?_
            exact ih23 zz13 v64 y11 y12 H locs ls G oo14 kk15 (iv_mono b66 (by decide) (by decide)) (iv_mono b18 (by decide) (by decide)) (by have := t67; have := m16; omega) (lv_sub hl [0, 1, 2, 3, 4, 5] rfl)
          · skip
            have b68 : iv 1 1 v59 := ne_lo c62 b61 (by decide) (by decide)
            refine lv_aload_n E.1 E.2.1 dX1_ruledGoal_58 rfl (lv_at hl 4 rfl) ?_
            refine lv_iload_n E.1 E.2.1 dX1_ruledGoal_59 rfl (lv_at hl 5 rfl) ?_
            refine lv_iload E.1 E.2.1 dX1_ruledGoal_60 (lv_at hl 0 rfl) ?_
            refine t_vv E G hl (c_tellCorner l D K ad zz13 oo14 x1 (iv_mono bx1 (by decide) (by decide)) y10 (iv_mono b24 (by decide) (by decide))) 1 (rfl : ro 324 = 1) (by decide) rfl rfl 2 rfl mw_code_X1_tellCorner mw_ini_1 mw_ml_1_115 mw_inst_X1_tellCorner mw_sel_X1_tellCorner hd_X1_tellCorner ⟨Nat.le_trans (by decide) hfr, Nat.le_trans (by decide) hlo⟩ rfl rfl rfl (Nat.le_of_ble_eq_true rfl) dX1_ruledGoal_62 (fun zz69 H locs hp71 G => ?_)
            obtain ⟨oo72, kk73⟩ := hp71
            have kk74 : KC z zz69 := KC.tr kk15 kk73
            refine lv_aload_n E.1 E.2.1 dX1_ruledGoal_65 rfl (lv_at hl 4 rfl) ?_
            refine t_get E G 1 5 (rfl : ro 324 = 1) (C := RX1) (T := TX1) (N := 6) rfl (by decide) (by decide) (by decide) mw_fl_1_38 (fvl_d rfl) dX1_ruledGoal_66 ?_
            obtain ⟨qq75, eqq75⟩ : ∃ q : Nat, q = tP zz69 324 5 := ⟨_, rfl⟩
            have aqq75 : at_ 4 qq75 = true := by rw [eqq75]; exact oo72.p 1 5 (rfl : ro 324 = 1) (by decide)
            rw [← eqq75]
            refine lv_aload_n E.1 E.2.1 dX1_ruledGoal_69 rfl (lv_at hl 4 rfl) ?_
            refine t_get E G 1 3 (rfl : ro 324 = 1) (C := RX1) (T := TX1) (N := 6) rfl (by decide) (by decide) (by decide) mw_fl_1_25 (v := .ref (ad 334)) (fvl_o (n := 10) rfl) dX1_ruledGoal_70 ?_
            refine t_vl E G hl (r_worth l D K ad zz69 oo72 qq75 aqq75) 4 (at_ro (i := 0) aqq75 (by decide) : ro qq75 = 4) (by decide) rfl rfl 1 rfl mw_code_X4_worth mw_ini_4 mw_ml_1_118 mw_inst_X4_worth mw_sel_X4_worth hd_X4_worth ⟨Nat.le_trans (by decide) hfr, Nat.le_trans (by decide) hlo⟩ rfl rfl rfl (Nat.le_of_ble_eq_true rfl) dX1_ruledGoal_73 (fun r77 zz76 H locs hp78 G => ?_)
            obtain ⟨oo79, kk80⟩ := hp78
            have kk81 : KC z zz76 := KC.tr kk74 kk80
            refine lv_lstore (lv' := [(7, .long r77), (6, .int y10), (4, .long y11), (3, .int y12), (2, .int v1), (0, .ref (ad 324)), (1, .int x1)]) E.1 E.2.1 dX1_ruledGoal_76 hl (by decide) rfl (fun ls hl => ?_)
            refine lv_lload E.1 E.2.1 dX1_ruledGoal_78 (lv_at hl 0 rfl) ?_
            refine lv_lload E.1 E.2.1 dX1_ruledGoal_80 (lv_at hl 2 rfl) ?_
            refine W.lcmp E.1 E.2.1 dX1_ruledGoal_82 ?_
            refine lv_topi (fun v82 e83 => ?_)
            have b84 : iv (-1) 1 v82 := by rw [e83]; exact lgc_iv _ _
            refine lv_if_le (tgt := 93) E.1 E.2.1 dX1_ruledGoal_83 (by decide) (fun c85 => ?_) (fun c85 => ?_)
            · skip
              have b86 : iv (-1) 0 v82 := le_l c85 b84 (iv_lit (lo := 0) (hi := 0) 0 (by decide) (by decide)) (by decide)
              obtain ⟨v87, e88⟩ : ∃ w : Int32, w = y10 + (1 : Int32) := ⟨_, rfl⟩
              refine lv_iinc (v := v87) (lv' := [(6, .int v87), (7, .long r77), (4, .long y11), (3, .int y12), (2, .int v1), (0, .ref (ad 324)), (1, .int x1)]) E.1 E.2.1 dX1_ruledGoal_93 hl (k := 1) rfl (by rw [e88]; rfl) (by decide) rfl (fun ls hl => ?_)
              have b89 : iv 1 8 v87 := by rw [e88]; exact iv_add b24 (iv_lit (lo := 1) (hi := 1) 1 (by decide) (by decide)) (by decide) (by decide) (by decide) (by decide)
              have t90 : v87.toInt = y10.toInt + 1 := by rw [e88]; exact ti_addc 1 (by decide) b24 (by decide) (by decide)
              refine lv_goto (tgt := 23) E.1 E.2.1 dX1_ruledGoal_96 (by decide) ?_
              exact ih23 zz76 v87 y11 y12 H locs ls G oo79 kk81 (iv_mono b89 (by decide) (by decide)) (iv_mono b18 (by decide) (by decide)) (by have := t90; have := m16; omega) (lv_sub hl [0, 2, 3, 4, 5, 6] rfl)
            · skip
              have b91 : iv 1 1 v82 := lt_r (Int32.not_le.mp c85) (iv_lit (lo := 0) (hi := 0) 0 (by decide) (by decide)) b84 (by decide)
              refine lv_lload E.1 E.2.1 dX1_ruledGoal_86 (lv_at hl 0 rfl) ?_
              refine lv_lstore (lv' := [(4, .long r77), (7, .long r77), (6, .int y10), (3, .int y12), (2, .int v1), (0, .ref (ad 324)), (1, .int x1)]) E.1 E.2.1 dX1_ruledGoal_88 hl (by decide) rfl (fun ls hl => ?_)
              refine lv_iload E.1 E.2.1 dX1_ruledGoal_90 (lv_at hl 2 rfl) ?_
              refine lv_istore_n (lv' := [(3, .int y10), (4, .long r77), (7, .long r77), (6, .int y10), (2, .int v1), (0, .ref (ad 324)), (1, .int x1)]) E.1 E.2.1 dX1_ruledGoal_92 rfl hl (by decide) rfl (fun ls hl => ?_)
              obtain ⟨v92, e93⟩ : ∃ w : Int32, w = y10 + (1 : Int32) := ⟨_, rfl⟩
              refine lv_iinc (v := v92) (lv' := [(6, .int v92), (3, .int y10), (4, .long r77), (7, .long r77), (2, .int v1), (0, .ref (ad 324)), (1, .int x1)]) E.1 E.2.1 dX1_ruledGoal_93 hl (k := 3) rfl (by rw [e93]; rfl) (by decide) rfl (fun ls hl => ?_)
              have b94 : iv 1 8 v92 := by rw [e93]; exact iv_add b24 (iv_lit (lo := 1) (hi := 1) 1 (by decide) (by decide)) (by decide) (by decide) (by decide) (by decide)
              have t95 : v92.toInt = y10.toInt + 1 := by rw [e93]; exact ti_addc 1 (by decide) b24 (by decide) (by decide)
              refine lv_goto (tgt := 23) E.1 E.2.1 dX1_ruledGoal_96 (by decide) ?_
              exact ih23 zz76 v92 r77 y10 H locs ls G oo79 kk81 (iv_mono b94 (by decide) (by decide)) (iv_mono b24 (by decide) (by decide)) (by have := t95; have := m16; omega) (lv_sub hl [0, 2, 1, 4, 5, 6] rfl)
  exact LOOP23 9 zz4 0 0 v1 H locs ls G oo7 kk9 (iv_mono (iv_lit (lo := 0) (hi := 0) 0 (by decide) (by decide)) (by decide) (by decide)) (iv_mono b3 (by decide) (by decide)) (by have := (iv_lit (lo := 0) (hi := 0) 0 (by decide) (by decide)).1; omega) (lv_sub hl [0, 1, 2, 3, 4, 5] rfl)
