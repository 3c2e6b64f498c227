theorem mw_code_X8_addLure : (Cond.code yX8_addLure cX8_addLure 5 none : Cond) ∈ cw := cw_of (List.mem_append_right _ (List.mem_append_right _ (List.mem_append_right _ (List.mem_append_left _ (List.mem_of_getElem? (i := 139) rfl))))) (by decide +kernel)
theorem mw_code_X8_addWalker : (Cond.code yX8_addWalker cX8_addWalker 5 none : Cond) ∈ cw := cw_of (List.mem_append_right _ (List.mem_append_right _ (List.mem_append_right _ (List.mem_append_left _ (List.mem_of_getElem? (i := 147) rfl))))) (by decide +kernel)
theorem mw_code_X8_join : (Cond.code yX8_join cX8_join 3 none : Cond) ∈ cw := cw_of (List.mem_append_right _ (List.mem_append_right _ (List.mem_append_right _ (List.mem_append_left _ (List.mem_of_getElem? (i := 135) rfl))))) (by decide +kernel)
theorem mw_inst_X8_addLure : (Cond.instanceMethod yX8_addLure : Cond) ∈ cw := cw_of (List.mem_append_right _ (List.mem_append_right _ (List.mem_append_right _ (List.mem_append_left _ (List.mem_of_getElem? (i := 137) (by decide +kernel)))))) (by decide +kernel)
theorem mw_inst_X8_addWalker : (Cond.instanceMethod yX8_addWalker : Cond) ∈ cw := cw_of (List.mem_append_right _ (List.mem_append_right _ (List.mem_append_right _ (List.mem_append_left _ (List.mem_of_getElem? (i := 145) (by decide +kernel)))))) (by decide +kernel)
theorem mw_inst_X8_join : (Cond.instanceMethod yX8_join : Cond) ∈ cw := cw_of (List.mem_append_right _ (List.mem_append_right _ (List.mem_append_right _ (List.mem_append_left _ (List.mem_of_getElem? (i := 133) (by decide +kernel)))))) (by decide +kernel)
theorem mw_ml_9_88 : (Cond.methodLink RX9 88 yX8_join : Cond) ∈ cw := cw_of (List.mem_append_right _ (List.mem_append_right _ (List.mem_append_right _ (List.mem_append_left _ (List.mem_of_getElem? (i := 132) (by decide +kernel)))))) (by decide +kernel)
theorem mw_ml_9_92 : (Cond.methodLink RX9 92 yX8_addLure : Cond) ∈ cw := cw_of (List.mem_append_right _ (List.mem_append_right _ (List.mem_append_right _ (List.mem_append_left _ (List.mem_of_getElem? (i := 136) (by decide +kernel)))))) (by decide +kernel)
theorem mw_ml_9_96 : (Cond.methodLink RX9 96 yX8_addWalker : Cond) ∈ cw := cw_of (List.mem_append_right _ (List.mem_append_right _ (List.mem_append_right _ (List.mem_append_left _ (List.mem_of_getElem? (i := 144) (by decide +kernel)))))) (by decide +kernel)
theorem mw_sel_X8_addLure : (Cond.selects RX8 yX8_addLure yX8_addLure : Cond) ∈ cw := cw_of (List.mem_append_right _ (List.mem_append_right _ (List.mem_append_right _ (List.mem_append_left _ (List.mem_of_getElem? (i := 138) (by decide +kernel)))))) (by decide +kernel)
theorem mw_sel_X8_addWalker : (Cond.selects RX8 yX8_addWalker yX8_addWalker : Cond) ∈ cw := cw_of (List.mem_append_right _ (List.mem_append_right _ (List.mem_append_right _ (List.mem_append_left _ (List.mem_of_getElem? (i := 146) (by decide +kernel)))))) (by decide +kernel)
theorem mw_sel_X8_join : (Cond.selects RX8 yX8_join yX8_join : Cond) ∈ cw := cw_of (List.mem_append_right _ (List.mem_append_right _ (List.mem_append_right _ (List.mem_append_left _ (List.mem_of_getElem? (i := 134) (by decide +kernel)))))) (by decide +kernel)
theorem dX9_readClauseEnd_0 : decode cX9_readClauseEnd 0 = .ok (.aload_n 0, 1) := by decide +kernel
theorem dX9_readClauseEnd_1 : decode cX9_readClauseEnd 1 = .ok (.getfield 12, 3) := by decide +kernel
theorem dX9_readClauseEnd_4 : decode cX9_readClauseEnd 4 = .ok (.invokevirtual 49, 3) := by decide +kernel
theorem dX9_readClauseEnd_7 : decode cX9_readClauseEnd 7 = .ok (.aload_n 0, 1) := by decide +kernel
theorem dX9_readClauseEnd_8 : decode cX9_readClauseEnd 8 = .ok (.getfield 12, 3) := by decide +kernel
theorem dX9_readClauseEnd_11 : decode cX9_readClauseEnd 11 = .ok (.getfield 43, 3) := by decide +kernel
theorem dX9_readClauseEnd_14 : decode cX9_readClauseEnd 14 = .ok (.bipush 20, 2) := by decide +kernel
theorem dX9_readClauseEnd_16 : decode cX9_readClauseEnd 16 = .ok (.if_icmp .eq 23, 3) := by decide +kernel
theorem dX9_readClauseEnd_19 : decode cX9_readClauseEnd 19 = .ok (.aload_n 0, 1) := by decide +kernel
theorem dX9_readClauseEnd_20 : decode cX9_readClauseEnd 20 = .ok (.getfield 12, 3) := by decide +kernel
theorem dX9_readClauseEnd_23 : decode cX9_readClauseEnd 23 = .ok (.getfield 43, 3) := by decide +kernel
theorem dX9_readClauseEnd_26 : decode cX9_readClauseEnd 26 = .ok (.bipush 40, 2) := by decide +kernel
theorem dX9_readClauseEnd_28 : decode cX9_readClauseEnd 28 = .ok (.if_icmp .eq 11, 3) := by decide +kernel
theorem dX9_readClauseEnd_31 : decode cX9_readClauseEnd 31 = .ok (.aload_n 0, 1) := by decide +kernel
theorem dX9_readClauseEnd_32 : decode cX9_readClauseEnd 32 = .ok (.getfield 12, 3) := by decide +kernel
theorem dX9_readClauseEnd_35 : decode cX9_readClauseEnd 35 = .ok (.iconst 0, 1) := by decide +kernel
theorem dX9_readClauseEnd_36 : decode cX9_readClauseEnd 36 = .ok (.invokevirtual 52, 3) := by decide +kernel
theorem dX9_readClauseEnd_39 : decode cX9_readClauseEnd 39 = .ok (.return_, 1) := by decide +kernel
theorem dX9_tellTown_0 : decode cX9_tellTown 0 = .ok (.iload_n 1, 1) := by decide +kernel
theorem dX9_tellTown_1 : decode cX9_tellTown 1 = .ok (.bipush 16, 2) := by decide +kernel
theorem dX9_tellTown_3 : decode cX9_tellTown 3 = .ok (.if_icmp .ne 19, 3) := by decide +kernel
theorem dX9_tellTown_6 : decode cX9_tellTown 6 = .ok (.aload_n 0, 1) := by decide +kernel
theorem dX9_tellTown_7 : decode cX9_tellTown 7 = .ok (.getfield 21, 3) := by decide +kernel
theorem dX9_tellTown_10 : decode cX9_tellTown 10 = .ok (.aload_n 0, 1) := by decide +kernel
theorem dX9_tellTown_11 : decode cX9_tellTown 11 = .ok (.getfield 25, 3) := by decide +kernel
theorem dX9_tellTown_14 : decode cX9_tellTown 14 = .ok (.iconst 0, 1) := by decide +kernel
theorem dX9_tellTown_15 : decode cX9_tellTown 15 = .ok (.iaload, 1) := by decide +kernel
theorem dX9_tellTown_16 : decode cX9_tellTown 16 = .ok (.putfield 85, 3) := by decide +kernel
theorem dX9_tellTown_19 : decode cX9_tellTown 19 = .ok (.goto 102, 3) := by decide +kernel
theorem dX9_tellTown_22 : decode cX9_tellTown 22 = .ok (.iload_n 1, 1) := by decide +kernel
theorem dX9_tellTown_23 : decode cX9_tellTown 23 = .ok (.bipush 17, 2) := by decide +kernel
theorem dX9_tellTown_25 : decode cX9_tellTown 25 = .ok (.if_icmp .ne 25, 3) := by decide +kernel
theorem dX9_tellTown_28 : decode cX9_tellTown 28 = .ok (.aload_n 0, 1) := by decide +kernel
theorem dX9_tellTown_29 : decode cX9_tellTown 29 = .ok (.getfield 21, 3) := by decide +kernel
theorem dX9_tellTown_32 : decode cX9_tellTown 32 = .ok (.aload_n 0, 1) := by decide +kernel
theorem dX9_tellTown_33 : decode cX9_tellTown 33 = .ok (.getfield 25, 3) := by decide +kernel
theorem dX9_tellTown_36 : decode cX9_tellTown 36 = .ok (.iconst 0, 1) := by decide +kernel
theorem dX9_tellTown_37 : decode cX9_tellTown 37 = .ok (.iaload, 1) := by decide +kernel
theorem dX9_tellTown_38 : decode cX9_tellTown 38 = .ok (.aload_n 0, 1) := by decide +kernel
theorem dX9_tellTown_39 : decode cX9_tellTown 39 = .ok (.getfield 25, 3) := by decide +kernel
theorem dX9_tellTown_42 : decode cX9_tellTown 42 = .ok (.iconst 1, 1) := by decide +kernel
theorem dX9_tellTown_43 : decode cX9_tellTown 43 = .ok (.iaload, 1) := by decide +kernel
theorem dX9_tellTown_44 : decode cX9_tellTown 44 = .ok (.invokevirtual 88, 3) := by decide +kernel
theorem dX9_tellTown_47 : decode cX9_tellTown 47 = .ok (.goto 74, 3) := by decide +kernel
theorem dX9_tellTown_50 : decode cX9_tellTown 50 = .ok (.iload_n 1, 1) := by decide +kernel
theorem dX9_tellTown_51 : decode cX9_tellTown 51 = .ok (.bipush 18, 2) := by decide +kernel
theorem dX9_tellTown_53 : decode cX9_tellTown 53 = .ok (.if_icmp .ne 37, 3) := by decide +kernel
theorem dX9_tellTown_56 : decode cX9_tellTown 56 = .ok (.aload_n 0, 1) := by decide +kernel
theorem dX9_tellTown_57 : decode cX9_tellTown 57 = .ok (.getfield 21, 3) := by decide +kernel
theorem dX9_tellTown_60 : decode cX9_tellTown 60 = .ok (.aload_n 0, 1) := by decide +kernel
theorem dX9_tellTown_61 : decode cX9_tellTown 61 = .ok (.getfield 25, 3) := by decide +kernel
theorem dX9_tellTown_64 : decode cX9_tellTown 64 = .ok (.iconst 0, 1) := by decide +kernel
theorem dX9_tellTown_65 : decode cX9_tellTown 65 = .ok (.iaload, 1) := by decide +kernel
theorem dX9_tellTown_66 : decode cX9_tellTown 66 = .ok (.aload_n 0, 1) := by decide +kernel
theorem dX9_tellTown_67 : decode cX9_tellTown 67 = .ok (.getfield 25, 3) := by decide +kernel
theorem dX9_tellTown_70 : decode cX9_tellTown 70 = .ok (.iconst 1, 1) := by decide +kernel
theorem dX9_tellTown_71 : decode cX9_tellTown 71 = .ok (.iaload, 1) := by decide +kernel
theorem dX9_tellTown_72 : decode cX9_tellTown 72 = .ok (.aload_n 0, 1) := by decide +kernel
theorem dX9_tellTown_73 : decode cX9_tellTown 73 = .ok (.getfield 25, 3) := by decide +kernel
theorem dX9_tellTown_76 : decode cX9_tellTown 76 = .ok (.iconst 2, 1) := by decide +kernel
theorem dX9_tellTown_77 : decode cX9_tellTown 77 = .ok (.iaload, 1) := by decide +kernel
theorem dX9_tellTown_78 : decode cX9_tellTown 78 = .ok (.aload_n 0, 1) := by decide +kernel
theorem dX9_tellTown_79 : decode cX9_tellTown 79 = .ok (.getfield 25, 3) := by decide +kernel
theorem dX9_tellTown_82 : decode cX9_tellTown 82 = .ok (.iconst 3, 1) := by decide +kernel
theorem dX9_tellTown_83 : decode cX9_tellTown 83 = .ok (.iaload, 1) := by decide +kernel
theorem dX9_tellTown_84 : decode cX9_tellTown 84 = .ok (.invokevirtual 92, 3) := by decide +kernel
theorem dX9_tellTown_87 : decode cX9_tellTown 87 = .ok (.goto 34, 3) := by decide +kernel
theorem dX9_tellTown_90 : decode cX9_tellTown 90 = .ok (.aload_n 0, 1) := by decide +kernel
theorem dX9_tellTown_91 : decode cX9_tellTown 91 = .ok (.getfield 21, 3) := by decide +kernel
theorem dX9_tellTown_94 : decode cX9_tellTown 94 = .ok (.aload_n 0, 1) := by decide +kernel
theorem dX9_tellTown_95 : decode cX9_tellTown 95 = .ok (.getfield 25, 3) := by decide +kernel
theorem dX9_tellTown_98 : decode cX9_tellTown 98 = .ok (.iconst 0, 1) := by decide +kernel
theorem dX9_tellTown_99 : decode cX9_tellTown 99 = .ok (.iaload, 1) := by decide +kernel
theorem dX9_tellTown_100 : decode cX9_tellTown 100 = .ok (.aload_n 0, 1) := by decide +kernel
theorem dX9_tellTown_101 : decode cX9_tellTown 101 = .ok (.getfield 25, 3) := by decide +kernel
theorem dX9_tellTown_104 : decode cX9_tellTown 104 = .ok (.iconst 1, 1) := by decide +kernel
theorem dX9_tellTown_105 : decode cX9_tellTown 105 = .ok (.iaload, 1) := by decide +kernel
theorem dX9_tellTown_106 : decode cX9_tellTown 106 = .ok (.aload_n 0, 1) := by decide +kernel
theorem dX9_tellTown_107 : decode cX9_tellTown 107 = .ok (.getfield 25, 3) := by decide +kernel
theorem dX9_tellTown_110 : decode cX9_tellTown 110 = .ok (.iconst 2, 1) := by decide +kernel
theorem dX9_tellTown_111 : decode cX9_tellTown 111 = .ok (.iaload, 1) := by decide +kernel
theorem dX9_tellTown_112 : decode cX9_tellTown 112 = .ok (.aload_n 0, 1) := by decide +kernel
theorem dX9_tellTown_113 : decode cX9_tellTown 113 = .ok (.getfield 25, 3) := by decide +kernel
theorem dX9_tellTown_116 : decode cX9_tellTown 116 = .ok (.iconst 3, 1) := by decide +kernel
theorem dX9_tellTown_117 : decode cX9_tellTown 117 = .ok (.iaload, 1) := by decide +kernel
theorem dX9_tellTown_118 : decode cX9_tellTown 118 = .ok (.invokevirtual 96, 3) := by decide +kernel
theorem dX9_tellTown_121 : decode cX9_tellTown 121 = .ok (.return_, 1) := by decide +kernel
theorem hd_X8_addLure : yX8_addLure.cls ≠ "java/lang/invoke/MethodHandle" ∧ yX8_addLure.cls ≠ "java/lang/invoke/VarHandle" ∧ (parseMethodDescriptor yX8_addLure.desc).map (fun d => d.parameters.length) = some 4 := ⟨by decide +kernel, by decide +kernel, by decide +kernel⟩
theorem hd_X8_addWalker : yX8_addWalker.cls ≠ "java/lang/invoke/MethodHandle" ∧ yX8_addWalker.cls ≠ "java/lang/invoke/VarHandle" ∧ (parseMethodDescriptor yX8_addWalker.desc).map (fun d => d.parameters.length) = some 4 := ⟨by decide +kernel, by decide +kernel, by decide +kernel⟩
theorem hd_X8_join : yX8_join.cls ≠ "java/lang/invoke/MethodHandle" ∧ yX8_join.cls ≠ "java/lang/invoke/VarHandle" ∧ (parseMethodDescriptor yX8_join.desc).map (fun d => d.parameters.length) = some 2 := ⟨by decide +kernel, by decide +kernel, by decide +kernel⟩
set_option maxHeartbeats 4000000 in
set_option maxRecDepth 100000 in
theorem tr_tell_16 (l : Launch) (D : va_G) (K : Nat → ClassId) (ad : Nat → Nat) (z : TS) (o : Ok z) (h0 : iv 2 8 (tA z 4 0)) : cV l yX9_tellTown cX9_tellTown 2 ({ frames := 0, cells := 0, slots := 0, locals := 0 }) D K ad z [.ref (ad 3), .int 16] (fun u => Ok u ∧ KC z u) := by
  refine t_enterV (by decide) (Nat.le_of_ble_eq_true rfl) rfl rfl ?_
  intro p e s m args below meth c A R Q H locs ls E hfr hlo RET G hl
  have E : mE p s m meth c cX9_tellTown args 2 RX9 D K A := E
  have hl : lv_has ls 2 [(0, .ref (ad 3)), (1, .int 16)] := hl
  refine lv_iload_n E.1 E.2.1 dX9_tellTown_0 rfl (lv_at hl 1 rfl) ?_
  refine lv_bipush (v := 16) E.1 E.2.1 dX9_tellTown_1 (by decide) ?_
  refine lv_icmp_ne (tgt := 22) E.1 E.2.1 dX9_tellTown_3 (by decide) (fun h => absurd (by decide) h) (fun _ => ?_)
  refine lv_aload_n E.1 E.2.1 dX9_tellTown_6 rfl (lv_at hl 0 rfl) ?_
  refine t_get E G 9 1 (rfl : ro 3 = 9) (C := RX9) (T := TX9) (N := 3) rfl (by decide) (by decide) (by decide) mw_fl_9_21 (fvl_d rfl) dX9_tellTown_7 ?_
  obtain ⟨qq1, eqq1⟩ : ∃ q : Nat, q = tP z 3 1 := ⟨_, rfl⟩
  have aqq1 : at_ 8 qq1 = true := by rw [eqq1]; exact o.p 9 1 (rfl : ro 3 = 9) (by decide)
  rw [← eqq1]
  refine lv_aload_n E.1 E.2.1 dX9_tellTown_10 rfl (lv_at hl 0 rfl) ?_
  refine t_get E G 9 2 (rfl : ro 3 = 9) (C := RX9) (T := TX9) (N := 3) rfl (by decide) (by decide) (by decide) mw_fl_9_25 (v := .ref (ad 4)) (fvl_o (n := 1) rfl) dX9_tellTown_11 ?_
  refine lv_iconst (v := 0) E.1 E.2.1 dX9_tellTown_14 (by decide) ?_
  refine t_iald E G 34 (rfl : ro 4 = 34) (by decide) (by decide) rfl (n := 4) rfl (by unfold vp_in; decide) dX9_tellTown_15 ?_
  refine lv_topi (fun v2 e3 => ?_)
  have b4 : iv 2 8 v2 := by rw [e3]; exact h0
  refine t_puti E G 8 0 (at_ro (i := 0) aqq1 (by decide) : ro qq1 = 8) (C := RX8) (T := TX8) (N := 10) rfl (by decide) (by decide) (by decide) rfl rfl mw_fl_9_85 rfl dX9_tellTown_16 (fun H locs G => ?_)
  obtain ⟨zz5, G, oo6, kk7, h8, h9⟩ : ∃ u : TS, mG D A s H locs (wd K ad u) ∧ Ok u ∧ KC z u ∧ tI u qq1 0 = v2 ∧ tP u 3 1 = qq1 := ⟨_, G, ok_i o 8 (at_ro (i := 0) aqq1 (by decide) : ro qq1 = 8) (iv_mono b4 (by decide) (by decide)) (by decide), KC.tr KC.rf (KC_i 8 (at_ro (i := 0) aqq1 (by decide) : ro qq1 = 8) (by decide)), sI_self, eqq1.symm⟩
  refine lv_goto (tgt := 121) E.1 E.2.1 dX9_tellTown_19 (by decide) ?_
  exact RET G ⟨oo6, kk7⟩ dX9_tellTown_121
set_option maxHeartbeats 4000000 in
set_option maxRecDepth 100000 in
theorem tr_tell_17 (l : Launch) (D : va_G) (K : Nat → ClassId) (ad : Nat → Nat) (z : TS) (o : Ok z) (h0 : iv 0 7 (tA z 4 0)) (h1 : iv 0 7 (tA z 4 1)) : cV l yX9_tellTown cX9_tellTown 2 ({ frames := 1, cells := 0, slots := 0, locals := 22 }) D K ad z [.ref (ad 3), .int 17] (fun u => Ok u ∧ KC z u) := by
  refine t_enterV (by decide) (Nat.le_of_ble_eq_true rfl) rfl rfl ?_
  intro p e s m args below meth c A R Q H locs ls E hfr hlo RET G hl
  have E : mE p s m meth c cX9_tellTown args 2 RX9 D K A := E
  have hl : lv_has ls 2 [(0, .ref (ad 3)), (1, .int 17)] := hl
  refine lv_iload_n E.1 E.2.1 dX9_tellTown_0 rfl (lv_at hl 1 rfl) ?_
  refine lv_bipush (v := 16) E.1 E.2.1 dX9_tellTown_1 (by decide) ?_
  refine lv_icmp_ne (tgt := 22) E.1 E.2.1 dX9_tellTown_3 (by decide) (fun _ => ?_) (fun h => absurd h (by decide))
  refine lv_iload_n E.1 E.2.1 dX9_tellTown_22 rfl (lv_at hl 1 rfl) ?_
  refine lv_bipush (v := 17) E.1 E.2.1 dX9_tellTown_23 (by decide) ?_
  refine lv_icmp_ne (tgt := 50) E.1 E.2.1 dX9_tellTown_25 (by decide) (fun h => absurd (by decide) h) (fun _ => ?_)
  refine lv_aload_n E.1 E.2.1 dX9_tellTown_28 rfl (lv_at hl 0 rfl) ?_
  refine t_get E G 9 1 (rfl : ro 3 = 9) (C := RX9) (T := TX9) (N := 3) rfl (by decide) (by decide) (by decide) mw_fl_9_21 (fvl_d rfl) dX9_tellTown_29 ?_
  obtain ⟨qq1, eqq1⟩ : ∃ q : Nat, q = tP z 3 1 := ⟨_, rfl⟩
  have aqq1 : at_ 8 qq1 = true := by rw [eqq1]; exact o.p 9 1 (rfl : ro 3 = 9) (by decide)
  rw [← eqq1]
  refine lv_aload_n E.1 E.2.1 dX9_tellTown_32 rfl (lv_at hl 0 rfl) ?_
  refine t_get E G 9 2 (rfl : ro 3 = 9) (C := RX9) (T := TX9) (N := 3) rfl (by decide) (by decide) (by decide) mw_fl_9_25 (v := .ref (ad 4)) (fvl_o (n := 1) rfl) dX9_tellTown_33 ?_
  refine lv_iconst (v := 0) E.1 E.2.1 dX9_tellTown_36 (by decide) ?_
  refine t_iald E G 34 (rfl : ro 4 = 34) (by decide) (by decide) rfl (n := 4) rfl (by unfold vp_in; decide) dX9_tellTown_37 ?_
  refine lv_topi (fun v2 e3 => ?_)
  have b4 : iv 0 7 v2 := by rw [e3]; exact h0
  refine lv_aload_n E.1 E.2.1 dX9_tellTown_38 rfl (lv_at hl 0 rfl) ?_
  refine t_get E G 9 2 (rfl : ro 3 = 9) (C := RX9) (T := TX9) (N := 3) rfl (by decide) (by decide) (by decide) mw_fl_9_25 (v := .ref (ad 4)) (fvl_o (n := 1) rfl) dX9_tellTown_39 ?_
  refine lv_iconst (v := 1) E.1 E.2.1 dX9_tellTown_42 (by decide) ?_
  refine t_iald E G 34 (rfl : ro 4 = 34) (by decide) (by decide) rfl (n := 4) rfl (by unfold vp_in; decide) dX9_tellTown_43 ?_
  refine lv_topi (fun v5 e6 => ?_)
  have b7 : iv 0 7 v5 := by rw [e6]; exact h1
  refine t_vv E G hl (t_join l D K ad z o qq1 aqq1 v2 (iv_mono b4 (by decide) (by decide)) v5 (iv_mono b7 (by decide) (by decide))) 8 (at_ro (i := 0) aqq1 (by decide) : ro qq1 = 8) (by decide) rfl rfl 2 rfl mw_code_X8_join mw_ini_8 mw_ml_9_88 mw_inst_X8_join mw_sel_X8_join hd_X8_join ⟨Nat.le_trans (by decide) hfr, Nat.le_trans (by decide) hlo⟩ rfl rfl rfl (Nat.le_of_ble_eq_true rfl) dX9_tellTown_44 (fun zz8 H locs hp10 G => ?_)
  obtain ⟨oo11, kk12⟩ := hp10
  have kk13 : KC z zz8 := KC.tr KC.rf kk12
  refine lv_goto (tgt := 121) E.1 E.2.1 dX9_tellTown_47 (by decide) ?_
  exact RET G ⟨oo11, kk13⟩ dX9_tellTown_121
set_option maxHeartbeats 4000000 in
set_option maxRecDepth 100000 in
theorem tr_tell_18 (l : Launch) (D : va_G) (K : Nat → ClassId) (ad : Nat → Nat) (z : TS) (o : Ok z) (hn : iv 0 5 (tI z (tP z 3 1) 2)) : cV l yX9_tellTown cX9_tellTown 2 ({ frames := 2, cells := 0, slots := 0, locals := 45 }) D K ad z [.ref (ad 3), .int 18] (fun u => Ok u ∧ KC z u) := by
  refine t_enterV (by decide) (Nat.le_of_ble_eq_true rfl) rfl rfl ?_
  intro p e s m args below meth c A R Q H locs ls E hfr hlo RET G hl
  have E : mE p s m meth c cX9_tellTown args 2 RX9 D K A := E
  have hl : lv_has ls 2 [(0, .ref (ad 3)), (1, .int 18)] := hl
  refine lv_iload_n E.1 E.2.1 dX9_tellTown_0 rfl (lv_at hl 1 rfl) ?_
  refine lv_bipush (v := 16) E.1 E.2.1 dX9_tellTown_1 (by decide) ?_
  refine lv_icmp_ne (tgt := 22) E.1 E.2.1 dX9_tellTown_3 (by decide) (fun _ => ?_) (fun h => absurd h (by decide))
  refine lv_iload_n E.1 E.2.1 dX9_tellTown_22 rfl (lv_at hl 1 rfl) ?_
  refine lv_bipush (v := 17) E.1 E.2.1 dX9_tellTown_23 (by decide) ?_
  refine lv_icmp_ne (tgt := 50) E.1 E.2.1 dX9_tellTown_25 (by decide) (fun _ => ?_) (fun h => absurd h (by decide))
  refine lv_iload_n E.1 E.2.1 dX9_tellTown_50 rfl (lv_at hl 1 rfl) ?_
  refine lv_bipush (v := 18) E.1 E.2.1 dX9_tellTown_51 (by decide) ?_
  refine lv_icmp_ne (tgt := 90) E.1 E.2.1 dX9_tellTown_53 (by decide) (fun h => absurd (by decide) h) (fun _ => ?_)
  refine lv_aload_n E.1 E.2.1 dX9_tellTown_56 rfl (lv_at hl 0 rfl) ?_
  refine t_get E G 9 1 (rfl : ro 3 = 9) (C := RX9) (T := TX9) (N := 3) rfl (by decide) (by decide) (by decide) mw_fl_9_21 (fvl_d rfl) dX9_tellTown_57 ?_
  obtain ⟨qq1, eqq1⟩ : ∃ q : Nat, q = tP z 3 1 := ⟨_, rfl⟩
  have aqq1 : at_ 8 qq1 = true := by rw [eqq1]; exact o.p 9 1 (rfl : ro 3 = 9) (by decide)
  rw [← eqq1]
  refine lv_aload_n E.1 E.2.1 dX9_tellTown_60 rfl (lv_at hl 0 rfl) ?_
  refine t_get E G 9 2 (rfl : ro 3 = 9) (C := RX9) (T := TX9) (N := 3) rfl (by decide) (by decide) (by decide) mw_fl_9_25 (v := .ref (ad 4)) (fvl_o (n := 1) rfl) dX9_tellTown_61 ?_
  refine lv_iconst (v := 0) E.1 E.2.1 dX9_tellTown_64 (by decide) ?_
  refine t_iald E G 34 (rfl : ro 4 = 34) (by decide) (by decide) rfl (n := 4) rfl (by unfold vp_in; decide) dX9_tellTown_65 ?_
  refine lv_topi (fun v2 e3 => ?_)
  refine lv_aload_n E.1 E.2.1 dX9_tellTown_66 rfl (lv_at hl 0 rfl) ?_
  refine t_get E G 9 2 (rfl : ro 3 = 9) (C := RX9) (T := TX9) (N := 3) rfl (by decide) (by decide) (by decide) mw_fl_9_25 (v := .ref (ad 4)) (fvl_o (n := 1) rfl) dX9_tellTown_67 ?_
  refine lv_iconst (v := 1) E.1 E.2.1 dX9_tellTown_70 (by decide) ?_
  refine t_iald E G 34 (rfl : ro 4 = 34) (by decide) (by decide) rfl (n := 4) rfl (by unfold vp_in; decide) dX9_tellTown_71 ?_
  refine lv_topi (fun v4 e5 => ?_)
  refine lv_aload_n E.1 E.2.1 dX9_tellTown_72 rfl (lv_at hl 0 rfl) ?_
  refine t_get E G 9 2 (rfl : ro 3 = 9) (C := RX9) (T := TX9) (N := 3) rfl (by decide) (by decide) (by decide) mw_fl_9_25 (v := .ref (ad 4)) (fvl_o (n := 1) rfl) dX9_tellTown_73 ?_
  refine lv_iconst (v := 2) E.1 E.2.1 dX9_tellTown_76 (by decide) ?_
  refine t_iald E G 34 (rfl : ro 4 = 34) (by decide) (by decide) rfl (n := 4) rfl (by unfold vp_in; decide) dX9_tellTown_77 ?_
  refine lv_topi (fun v6 e7 => ?_)
  refine lv_aload_n E.1 E.2.1 dX9_tellTown_78 rfl (lv_at hl 0 rfl) ?_
  refine t_get E G 9 2 (rfl : ro 3 = 9) (C := RX9) (T := TX9) (N := 3) rfl (by decide) (by decide) (by decide) mw_fl_9_25 (v := .ref (ad 4)) (fvl_o (n := 1) rfl) dX9_tellTown_79 ?_
  refine lv_iconst (v := 3) E.1 E.2.1 dX9_tellTown_82 (by decide) ?_
  refine t_iald E G 34 (rfl : ro 4 = 34) (by decide) (by decide) rfl (n := 4) rfl (by unfold vp_in; decide) dX9_tellTown_83 ?_
  refine lv_topi (fun v8 e9 => ?_)
  refine t_vv E G hl (t_addLure l D K ad z o qq1 aqq1 v2 v4 v6 v8 (by have h := hn; rw [eqq1.symm] at h; exact h)) 8 (at_ro (i := 0) aqq1 (by decide) : ro qq1 = 8) (by decide) rfl rfl 4 rfl mw_code_X8_addLure mw_ini_8 mw_ml_9_92 mw_inst_X8_addLure mw_sel_X8_addLure hd_X8_addLure ⟨Nat.le_trans (by decide) hfr, Nat.le_trans (by decide) hlo⟩ rfl rfl rfl (Nat.le_of_ble_eq_true rfl) dX9_tellTown_84 (fun zz10 H locs hp12 G => ?_)
  obtain ⟨oo13, kk14⟩ := hp12
  have kk15 : KC z zz10 := KC.tr KC.rf kk14
  refine lv_goto (tgt := 121) E.1 E.2.1 dX9_tellTown_87 (by decide) ?_
  exact RET G ⟨oo13, kk15⟩ dX9_tellTown_121
set_option maxHeartbeats 4000000 in
set_option maxRecDepth 100000 in
theorem tr_tell_0 (l : Launch) (D : va_G) (K : Nat → ClassId) (ad : Nat → Nat) (z : TS) (o : Ok z) (h0 : iv 0 7 (tA z 4 0)) (h1 : iv 0 7 (tA z 4 1)) (hn : iv 0 4 (tI z (tP z 3 1) 3)) : cV l yX9_tellTown cX9_tellTown 2 ({ frames := 1, cells := 0, slots := 0, locals := 24 }) D K ad z [.ref (ad 3), .int 0] (fun u => Ok u ∧ KC z u) := by
  refine t_enterV (by decide) (Nat.le_of_ble_eq_true rfl) rfl rfl ?_
  intro p e s m args below meth c A R Q H locs ls E hfr hlo RET G hl
  have E : mE p s m meth c cX9_tellTown args 2 RX9 D K A := E
  have hl : lv_has ls 2 [(0, .ref (ad 3)), (1, .int 0)] := hl
  refine lv_iload_n E.1 E.2.1 dX9_tellTown_0 rfl (lv_at hl 1 rfl) ?_
  refine lv_bipush (v := 16) E.1 E.2.1 dX9_tellTown_1 (by decide) ?_
  refine lv_icmp_ne (tgt := 22) E.1 E.2.1 dX9_tellTown_3 (by decide) (fun _ => ?_) (fun h => absurd h (by decide))
  refine lv_iload_n E.1 E.2.1 dX9_tellTown_22 rfl (lv_at hl 1 rfl) ?_
  refine lv_bipush (v := 17) E.1 E.2.1 dX9_tellTown_23 (by decide) ?_
  refine lv_icmp_ne (tgt := 50) E.1 E.2.1 dX9_tellTown_25 (by decide) (fun _ => ?_) (fun h => absurd h (by decide))
  refine lv_iload_n E.1 E.2.1 dX9_tellTown_50 rfl (lv_at hl 1 rfl) ?_
  refine lv_bipush (v := 18) E.1 E.2.1 dX9_tellTown_51 (by decide) ?_
  refine lv_icmp_ne (tgt := 90) E.1 E.2.1 dX9_tellTown_53 (by decide) (fun _ => ?_) (fun h => absurd h (by decide))
  refine lv_aload_n E.1 E.2.1 dX9_tellTown_90 rfl (lv_at hl 0 rfl) ?_
  refine t_get E G 9 1 (rfl : ro 3 = 9) (C := RX9) (T := TX9) (N := 3) rfl (by decide) (by decide) (by decide) mw_fl_9_21 (fvl_d rfl) dX9_tellTown_91 ?_
  obtain ⟨qq1, eqq1⟩ : ∃ q : Nat, q = tP z 3 1 := ⟨_, rfl⟩
  have aqq1 : at_ 8 qq1 = true := by rw [eqq1]; exact o.p 9 1 (rfl : ro 3 = 9) (by decide)
  rw [← eqq1]
  refine lv_aload_n E.1 E.2.1 dX9_tellTown_94 rfl (lv_at hl 0 rfl) ?_
  refine t_get E G 9 2 (rfl : ro 3 = 9) (C := RX9) (T := TX9) (N := 3) rfl (by decide) (by decide) (by decide) mw_fl_9_25 (v := .ref (ad 4)) (fvl_o (n := 1) rfl) dX9_tellTown_95 ?_
  refine lv_iconst (v := 0) E.1 E.2.1 dX9_tellTown_98 (by decide) ?_
  refine t_iald E G 34 (rfl : ro 4 = 34) (by decide) (by decide) rfl (n := 4) rfl (by unfold vp_in; decide) dX9_tellTown_99 ?_
  refine lv_topi (fun v2 e3 => ?_)
  have b4 : iv 0 7 v2 := by rw [e3]; exact h0
  refine lv_aload_n E.1 E.2.1 dX9_tellTown_100 rfl (lv_at hl 0 rfl) ?_
  refine t_get E G 9 2 (rfl : ro 3 = 9) (C := RX9) (T := TX9) (N := 3) rfl (by decide) (by decide) (by decide) mw_fl_9_25 (v := .ref (ad 4)) (fvl_o (n := 1) rfl) dX9_tellTown_101 ?_
  refine lv_iconst (v := 1) E.1 E.2.1 dX9_tellTown_104 (by decide) ?_
  refine t_iald E G 34 (rfl : ro 4 = 34) (by decide) (by decide) rfl (n := 4) rfl (by unfold vp_in; decide) dX9_tellTown_105 ?_
  refine lv_topi (fun v5 e6 => ?_)
  have b7 : iv 0 7 v5 := by rw [e6]; exact h1
  refine lv_aload_n E.1 E.2.1 dX9_tellTown_106 rfl (lv_at hl 0 rfl) ?_
  refine t_get E G 9 2 (rfl : ro 3 = 9) (C := RX9) (T := TX9) (N := 3) rfl (by decide) (by decide) (by decide) mw_fl_9_25 (v := .ref (ad 4)) (fvl_o (n := 1) rfl) dX9_tellTown_107 ?_
  refine lv_iconst (v := 2) E.1 E.2.1 dX9_tellTown_110 (by decide) ?_
  refine t_iald E G 34 (rfl : ro 4 = 34) (by decide) (by decide) rfl (n := 4) rfl (by unfold vp_in; decide) dX9_tellTown_111 ?_
  refine lv_topi (fun v8 e9 => ?_)
  refine lv_aload_n E.1 E.2.1 dX9_tellTown_112 rfl (lv_at hl 0 rfl) ?_
  refine t_get E G 9 2 (rfl : ro 3 = 9) (C := RX9) (T := TX9) (N := 3) rfl (by decide) (by decide) (by decide) mw_fl_9_25 (v := .ref (ad 4)) (fvl_o (n := 1) rfl) dX9_tellTown_113 ?_
  refine lv_iconst (v := 3) E.1 E.2.1 dX9_tellTown_116 (by decide) ?_
  refine t_iald E G 34 (rfl : ro 4 = 34) (by decide) (by decide) rfl (n := 4) rfl (by unfold vp_in; decide) dX9_tellTown_117 ?_
  refine lv_topi (fun v10 e11 => ?_)
  refine t_vv E G hl (t_addWalker l D K ad z o qq1 aqq1 v2 (iv_mono b4 (by decide) (by decide)) v5 (iv_mono b7 (by decide) (by decide)) v8 v10 (by have h := hn; rw [eqq1.symm] at h; exact h)) 8 (at_ro (i := 0) aqq1 (by decide) : ro qq1 = 8) (by decide) rfl rfl 4 rfl mw_code_X8_addWalker mw_ini_8 mw_ml_9_96 mw_inst_X8_addWalker mw_sel_X8_addWalker hd_X8_addWalker ⟨Nat.le_trans (by decide) hfr, Nat.le_trans (by decide) hlo⟩ rfl rfl rfl (Nat.le_of_ble_eq_true rfl) dX9_tellTown_118 (fun zz12 H locs hp14 G => ?_)
  obtain ⟨oo15, kk16⟩ := hp14
  have kk17 : KC z zz12 := KC.tr KC.rf kk16
  exact RET G ⟨oo15, kk17⟩ dX9_tellTown_121
set_option maxHeartbeats 4000000 in
set_option maxRecDepth 100000 in
theorem tr_clauseEnd (l : Launch) (D : va_G) (K : Nat → ClassId) (ad : Nat → Nat) (z : TS) (o : Ok z) : cV l yX9_readClauseEnd cX9_readClauseEnd 1 ({ frames := 7, cells := 0, slots := 0, locals := 150 }) D K ad z [.ref (ad 3)] (fun u => Ok u ∧ KC z u) := by
  refine t_enterV (by decide) (Nat.le_of_ble_eq_true rfl) rfl rfl ?_
  intro p e s m args below meth c A R Q H locs ls E hfr hlo RET G hl
  have E : mE p s m meth c cX9_readClauseEnd args 1 RX9 D K A := E
  have hl : lv_has ls 1 [(0, .ref (ad 3))] := hl
  refine lv_aload_n E.1 E.2.1 dX9_readClauseEnd_0 rfl (lv_at hl 0 rfl) ?_
  refine t_get E G 9 0 (rfl : ro 3 = 9) (C := RX9) (T := TX9) (N := 3) rfl (by decide) (by decide) (by decide) mw_fl_9_12 (fvl_d rfl) dX9_readClauseEnd_1 ?_
  obtain ⟨qq1, eqq1⟩ : ∃ q : Nat, q = tP z 3 0 := ⟨_, rfl⟩
  have aqq1 : at_ 7 qq1 = true := by rw [eqq1]; exact o.p 9 0 (rfl : ro 3 = 9) (by decide)
  rw [← eqq1]
  refine t_vv E G hl (tp_readToken l D K ad z o qq1 aqq1) 7 (at_ro (i := 0) aqq1 (by decide) : ro qq1 = 7) (by decide) rfl rfl 0 rfl mw_code_X7_readToken mw_ini_7 mw_ml_9_49 mw_inst_X7_readToken mw_sel_X7_readToken hd_X7_readToken ⟨Nat.le_trans (by decide) hfr, Nat.le_trans (by decide) hlo⟩ rfl rfl rfl (Nat.le_of_ble_eq_true rfl) dX9_readClauseEnd_4 (fun zz2 H locs hp4 G => ?_)
  obtain ⟨oo5, kk6⟩ := hp4
  have kk7 : KC z zz2 := KC.tr KC.rf (KT.c kk6)
  have h8 : tP zz2 3 0 = qq1 := KF.p kk6 eqq1.symm
  refine lv_aload_n E.1 E.2.1 dX9_readClauseEnd_7 rfl (lv_at hl 0 rfl) ?_
  refine t_get E G 9 0 (rfl : ro 3 = 9) (C := RX9) (T := TX9) (N := 3) rfl (by decide) (by decide) (by decide) mw_fl_9_12 (fvl_d rfl) dX9_readClauseEnd_8 ?_
  rw [h8]
  refine t_get E G 7 3 (at_ro (i := 0) aqq1 (by decide) : ro qq1 = 7) (C := RX7) (T := TX7) (N := 7) rfl (by decide) (by decide) (by decide) mw_fl_9_43 (fvl_i rfl) dX9_readClauseEnd_11 ?_
  refine lv_topi (fun v10 e11 => ?_)
  have b12 : iv 0 42 v10 := by rw [e11]; exact oo5.i 7 3 (at_ro (i := 0) aqq1 (by decide) : ro qq1 = 7)
  refine lv_bipush (v := 20) E.1 E.2.1 dX9_readClauseEnd_14 (by decide) ?_
  refine lv_icmp_eq (tgt := 39) E.1 E.2.1 dX9_readClauseEnd_16 (by decide) (fun c13 => ?_) (fun c13 => ?_)
  · skip
    have b14 : iv 20 20 v10 := iv_eq c13 (iv_lit (lo := 20) (hi := 20) 20 (by decide) (by decide))
    exact RET G ⟨oo5, kk7⟩ dX9_readClauseEnd_39
  · skip
    refine lv_aload_n E.1 E.2.1 dX9_readClauseEnd_19 rfl (lv_at hl 0 rfl) ?_
    refine t_get E G 9 0 (rfl : ro 3 = 9) (C := RX9) (T := TX9) (N := 3) rfl (by decide) (by decide) (by decide) mw_fl_9_12 (fvl_d rfl) dX9_readClauseEnd_20 ?_
    rw [h8]
    refine t_get E G 7 3 (at_ro (i := 0) aqq1 (by decide) : ro qq1 = 7) (C := RX7) (T := TX7) (N := 7) rfl (by decide) (by decide) (by decide) mw_fl_9_43 (fvl_i rfl) dX9_readClauseEnd_23 ?_
    refine m_ci v10 e11.symm ?_
    refine lv_bipush (v := 40) E.1 E.2.1 dX9_readClauseEnd_26 (by decide) ?_
    refine lv_icmp_eq (tgt := 39) E.1 E.2.1 dX9_readClauseEnd_28 (by decide) (fun c16 => ?_) (fun c16 => ?_)
    · skip
      have b17 : iv 40 40 v10 := iv_eq c16 (iv_lit (lo := 40) (hi := 40) 40 (by decide) (by decide))
      exact RET G ⟨oo5, kk7⟩ dX9_readClauseEnd_39
    · skip
      refine lv_aload_n E.1 E.2.1 dX9_readClauseEnd_31 rfl (lv_at hl 0 rfl) ?_
      refine t_get E G 9 0 (rfl : ro 3 = 9) (C := RX9) (T := TX9) (N := 3) rfl (by decide) (by decide) (by decide) mw_fl_9_12 (fvl_d rfl) dX9_readClauseEnd_32 ?_
      rw [h8]
      refine lv_iconst (v := 0) E.1 E.2.1 dX9_readClauseEnd_35 (by decide) ?_
      refine t_vv E G hl (tp_blame l D K ad zz2 oo5 qq1 aqq1 (0 : Int32)) 7 (at_ro (i := 0) aqq1 (by decide) : ro qq1 = 7) (by decide) rfl rfl 1 rfl mw_code_X7_blame mw_ini_7 mw_ml_9_52 mw_inst_X7_blame mw_sel_X7_blame hd_X7_blame ⟨Nat.le_trans (by decide) hfr, Nat.le_trans (by decide) hlo⟩ rfl rfl rfl (Nat.le_of_ble_eq_true rfl) dX9_readClauseEnd_36 (fun zz19 H locs hp21 G => ?_)
      obtain ⟨oo22, kk23⟩ := hp21
      have kk24 : KC z zz19 := KC.tr kk7 (KT.c kk23)
      have h25 : tP zz19 3 0 = qq1 := KF.p kk23 h8
      exact RET G ⟨oo22, kk24⟩ dX9_readClauseEnd_39
