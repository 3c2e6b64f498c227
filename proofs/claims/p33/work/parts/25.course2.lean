theorem mw_code_X1_homeward : (Cond.code yX1_homeward cX1_homeward 5 (some .int) : Cond) ∈ cw := cw_of (List.mem_append_right _ (List.mem_append_right _ (List.mem_append_right _ (List.mem_append_right _ (List.mem_append_left _ (List.mem_of_getElem? (i := 89) rfl)))))) (by decide +kernel)
theorem mw_code_X1_ruledGoal : (Cond.code yX1_ruledGoal cX1_ruledGoal 9 (some .int) : Cond) ∈ cw := cw_of (List.mem_append_right _ (List.mem_append_right _ (List.mem_append_right _ (List.mem_append_right _ (List.mem_append_left _ (List.mem_of_getElem? (i := 97) rfl)))))) (by decide +kernel)
theorem mw_code_X1_spring : (Cond.code yX1_spring cX1_spring 3 none : Cond) ∈ cw := cw_of (List.mem_append_right _ (List.mem_append_right _ (List.mem_append_right _ (List.mem_append_right _ (List.mem_append_left _ (List.mem_of_getElem? (i := 131) rfl)))))) (by decide +kernel)
theorem mw_code_X8_lureThatHas : (Cond.code yX8_lureThatHas cX8_lureThatHas 5 (some .int) : Cond) ∈ cw := cw_of (List.mem_append_right _ (List.mem_append_right _ (List.mem_append_right _ (List.mem_append_right _ (List.mem_append_left _ (List.mem_of_getElem? (i := 126) rfl)))))) (by decide +kernel)
theorem mw_fl_1_18 : (Cond.fieldLink RX1 18 "LureTown$Course" "hadBy" "[I" : Cond) ∈ cw := cw_of (List.mem_append_right _ (List.mem_append_right _ (List.mem_append_left _ (List.mem_of_getElem? (i := 107) (by decide +kernel))))) (by decide +kernel)
theorem mw_fl_1_22 : (Cond.fieldLink RX1 22 "LureTown$Course" "goals" "[I" : Cond) ∈ cw := cw_of (List.mem_append_right _ (List.mem_append_right _ (List.mem_append_left _ (List.mem_of_getElem? (i := 109) (by decide +kernel))))) (by decide +kernel)
theorem mw_fl_1_54 : (Cond.fieldLink RX1 54 "LureTown$Rule" "clauseCount" "I" : Cond) ∈ cw := cw_of (List.mem_append_right _ (List.mem_append_left _ (List.mem_of_getElem? (i := 207) (by decide +kernel)))) (by decide +kernel)
theorem mw_inst_X1_homeward : (Cond.instanceMethod yX1_homeward : Cond) ∈ cw := cw_of (List.mem_append_right _ (List.mem_append_right _ (List.mem_append_right _ (List.mem_append_right _ (List.mem_append_left _ (List.mem_of_getElem? (i := 88) (by decide +kernel))))))) (by decide +kernel)
theorem mw_inst_X1_ruledGoal : (Cond.instanceMethod yX1_ruledGoal : Cond) ∈ cw := cw_of (List.mem_append_right _ (List.mem_append_right _ (List.mem_append_right _ (List.mem_append_right _ (List.mem_append_left _ (List.mem_of_getElem? (i := 96) (by decide +kernel))))))) (by decide +kernel)
theorem mw_inst_X1_spring : (Cond.instanceMethod yX1_spring : Cond) ∈ cw := cw_of (List.mem_append_right _ (List.mem_append_right _ (List.mem_append_right _ (List.mem_append_right _ (List.mem_append_left _ (List.mem_of_getElem? (i := 130) (by decide +kernel))))))) (by decide +kernel)
theorem mw_inst_X8_lureThatHas : (Cond.instanceMethod yX8_lureThatHas : Cond) ∈ cw := cw_of (List.mem_append_right _ (List.mem_append_right _ (List.mem_append_right _ (List.mem_append_right _ (List.mem_append_left _ (List.mem_of_getElem? (i := 124) (by decide +kernel))))))) (by decide +kernel)
theorem mw_ml_1_57 : (Cond.methodLink RX1 57 yX1_homeward : Cond) ∈ cw := cw_of (List.mem_append_right _ (List.mem_append_right _ (List.mem_append_right _ (List.mem_append_right _ (List.mem_append_left _ (List.mem_of_getElem? (i := 86) (by decide +kernel))))))) (by decide +kernel)
theorem mw_ml_1_61 : (Cond.methodLink RX1 61 yX1_ruledGoal : Cond) ∈ cw := cw_of (List.mem_append_right _ (List.mem_append_right _ (List.mem_append_right _ (List.mem_append_right _ (List.mem_append_left _ (List.mem_of_getElem? (i := 94) (by decide +kernel))))))) (by decide +kernel)
theorem mw_ml_1_67 : (Cond.methodLink RX1 67 arraycopyName : Cond) ∈ cw := cw_of (List.mem_append_right _ (List.mem_append_right _ (List.mem_append_right _ (List.mem_append_right _ (List.mem_append_left _ (List.mem_of_getElem? (i := 122) (by decide +kernel))))))) (by decide +kernel)
theorem mw_ml_1_73 : (Cond.methodLink RX1 73 yX8_lureThatHas : Cond) ∈ cw := cw_of (List.mem_append_right _ (List.mem_append_right _ (List.mem_append_right _ (List.mem_append_right _ (List.mem_append_left _ (List.mem_of_getElem? (i := 123) (by decide +kernel))))))) (by decide +kernel)
theorem mw_ml_1_77 : (Cond.methodLink RX1 77 yX1_spring : Cond) ∈ cw := cw_of (List.mem_append_right _ (List.mem_append_right _ (List.mem_append_right _ (List.mem_append_right _ (List.mem_append_left _ (List.mem_of_getElem? (i := 128) (by decide +kernel))))))) (by decide +kernel)
theorem mw_sel_X1_homeward : (Cond.selects RX1 yX1_homeward yX1_homeward : Cond) ∈ cw := cw_of (List.mem_append_left _ (List.mem_of_getElem? (i := 30) (by decide +kernel))) (by decide +kernel)
theorem mw_sel_X1_ruledGoal : (Cond.selects RX1 yX1_ruledGoal yX1_ruledGoal : Cond) ∈ cw := cw_of (List.mem_append_left _ (List.mem_of_getElem? (i := 31) (by decide +kernel))) (by decide +kernel)
theorem mw_sel_X1_spring : (Cond.selects RX1 yX1_spring yX1_spring : Cond) ∈ cw := cw_of (List.mem_append_left _ (List.mem_of_getElem? (i := 35) (by decide +kernel))) (by decide +kernel)
theorem mw_sel_X8_lureThatHas : (Cond.selects RX8 yX8_lureThatHas yX8_lureThatHas : Cond) ∈ cw := cw_of (List.mem_append_right _ (List.mem_append_right _ (List.mem_append_right _ (List.mem_append_right _ (List.mem_append_left _ (List.mem_of_getElem? (i := 125) (by decide +kernel))))))) (by decide +kernel)
theorem dX1_goStep_0 : decode cX1_goStep 0 = .ok (.iconst 0, 1) := by decide +kernel
theorem dX1_goStep_1 : decode cX1_goStep 1 = .ok (.istore_n 1, 1) := by decide +kernel
theorem dX1_goStep_2 : decode cX1_goStep 2 = .ok (.iload_n 1, 1) := by decide +kernel
theorem dX1_goStep_3 : decode cX1_goStep 3 = .ok (.aload_n 0, 1) := by decide +kernel
theorem dX1_goStep_4 : decode cX1_goStep 4 = .ok (.getfield 31, 3) := by decide +kernel
theorem dX1_goStep_7 : decode cX1_goStep 7 = .ok (.getfield 50, 3) := by decide +kernel
theorem dX1_goStep_10 : decode cX1_goStep 10 = .ok (.if_icmp .ge 38, 3) := by decide +kernel
theorem dX1_goStep_13 : decode cX1_goStep 13 = .ok (.aload_n 0, 1) := by decide +kernel
theorem dX1_goStep_14 : decode cX1_goStep 14 = .ok (.getfield 22, 3) := by decide +kernel
theorem dX1_goStep_17 : decode cX1_goStep 17 = .ok (.iload_n 1, 1) := by decide +kernel
theorem dX1_goStep_18 : decode cX1_goStep 18 = .ok (.aload_n 0, 1) := by decide +kernel
theorem dX1_goStep_19 : decode cX1_goStep 19 = .ok (.getfield 38, 3) := by decide +kernel
theorem dX1_goStep_22 : decode cX1_goStep 22 = .ok (.getfield 54, 3) := by decide +kernel
theorem dX1_goStep_25 : decode cX1_goStep 25 = .ok (.ifCond .ne 11, 3) := by decide +kernel
theorem dX1_goStep_28 : decode cX1_goStep 28 = .ok (.aload_n 0, 1) := by decide +kernel
theorem dX1_goStep_29 : decode cX1_goStep 29 = .ok (.iload_n 1, 1) := by decide +kernel
theorem dX1_goStep_30 : decode cX1_goStep 30 = .ok (.invokevirtual 57, 3) := by decide +kernel
theorem dX1_goStep_33 : decode cX1_goStep 33 = .ok (.goto 8, 3) := by decide +kernel
theorem dX1_goStep_36 : decode cX1_goStep 36 = .ok (.aload_n 0, 1) := by decide +kernel
theorem dX1_goStep_37 : decode cX1_goStep 37 = .ok (.iload_n 1, 1) := by decide +kernel
theorem dX1_goStep_38 : decode cX1_goStep 38 = .ok (.invokevirtual 61, 3) := by decide +kernel
theorem dX1_goStep_41 : decode cX1_goStep 41 = .ok (.iastore, 1) := by decide +kernel
theorem dX1_goStep_42 : decode cX1_goStep 42 = .ok (.iinc 1 1, 3) := by decide +kernel
theorem dX1_goStep_45 : decode cX1_goStep 45 = .ok (.goto (-43), 3) := by decide +kernel
theorem dX1_goStep_48 : decode cX1_goStep 48 = .ok (.aload_n 0, 1) := by decide +kernel
theorem dX1_goStep_49 : decode cX1_goStep 49 = .ok (.getfield 22, 3) := by decide +kernel
theorem dX1_goStep_52 : decode cX1_goStep 52 = .ok (.iconst 0, 1) := by decide +kernel
theorem dX1_goStep_53 : decode cX1_goStep 53 = .ok (.aload_n 0, 1) := by decide +kernel
theorem dX1_goStep_54 : decode cX1_goStep 54 = .ok (.getfield 12, 3) := by decide +kernel
theorem dX1_goStep_57 : decode cX1_goStep 57 = .ok (.getfield 64, 3) := by decide +kernel
theorem dX1_goStep_60 : decode cX1_goStep 60 = .ok (.iconst 0, 1) := by decide +kernel
theorem dX1_goStep_61 : decode cX1_goStep 61 = .ok (.aload_n 0, 1) := by decide +kernel
theorem dX1_goStep_62 : decode cX1_goStep 62 = .ok (.getfield 31, 3) := by decide +kernel
theorem dX1_goStep_65 : decode cX1_goStep 65 = .ok (.getfield 50, 3) := by decide +kernel
theorem dX1_goStep_68 : decode cX1_goStep 68 = .ok (.invokestatic 67, 3) := by decide +kernel
theorem dX1_goStep_71 : decode cX1_goStep 71 = .ok (.iconst 0, 1) := by decide +kernel
theorem dX1_goStep_72 : decode cX1_goStep 72 = .ok (.istore_n 1, 1) := by decide +kernel
theorem dX1_goStep_73 : decode cX1_goStep 73 = .ok (.iconst 0, 1) := by decide +kernel
theorem dX1_goStep_74 : decode cX1_goStep 74 = .ok (.istore_n 2, 1) := by decide +kernel
theorem dX1_goStep_75 : decode cX1_goStep 75 = .ok (.iload_n 2, 1) := by decide +kernel
theorem dX1_goStep_76 : decode cX1_goStep 76 = .ok (.aload_n 0, 1) := by decide +kernel
theorem dX1_goStep_77 : decode cX1_goStep 77 = .ok (.getfield 31, 3) := by decide +kernel
theorem dX1_goStep_80 : decode cX1_goStep 80 = .ok (.getfield 50, 3) := by decide +kernel
theorem dX1_goStep_83 : decode cX1_goStep 83 = .ok (.if_icmp .ge 63, 3) := by decide +kernel
theorem dX1_goStep_86 : decode cX1_goStep 86 = .ok (.aload_n 0, 1) := by decide +kernel
theorem dX1_goStep_87 : decode cX1_goStep 87 = .ok (.getfield 18, 3) := by decide +kernel
theorem dX1_goStep_90 : decode cX1_goStep 90 = .ok (.iload_n 2, 1) := by decide +kernel
theorem dX1_goStep_91 : decode cX1_goStep 91 = .ok (.aload_n 0, 1) := by decide +kernel
theorem dX1_goStep_92 : decode cX1_goStep 92 = .ok (.getfield 31, 3) := by decide +kernel
theorem dX1_goStep_95 : decode cX1_goStep 95 = .ok (.aload_n 0, 1) := by decide +kernel
theorem dX1_goStep_96 : decode cX1_goStep 96 = .ok (.getfield 12, 3) := by decide +kernel
theorem dX1_goStep_99 : decode cX1_goStep 99 = .ok (.iload_n 2, 1) := by decide +kernel
theorem dX1_goStep_100 : decode cX1_goStep 100 = .ok (.aload_n 0, 1) := by decide +kernel
theorem dX1_goStep_101 : decode cX1_goStep 101 = .ok (.getfield 12, 3) := by decide +kernel
theorem dX1_goStep_104 : decode cX1_goStep 104 = .ok (.getfield 64, 3) := by decide +kernel
theorem dX1_goStep_107 : decode cX1_goStep 107 = .ok (.iload_n 2, 1) := by decide +kernel
theorem dX1_goStep_108 : decode cX1_goStep 108 = .ok (.iaload, 1) := by decide +kernel
theorem dX1_goStep_109 : decode cX1_goStep 109 = .ok (.invokevirtual 73, 3) := by decide +kernel
theorem dX1_goStep_112 : decode cX1_goStep 112 = .ok (.iastore, 1) := by decide +kernel
theorem dX1_goStep_113 : decode cX1_goStep 113 = .ok (.aload_n 0, 1) := by decide +kernel
theorem dX1_goStep_114 : decode cX1_goStep 114 = .ok (.getfield 18, 3) := by decide +kernel
theorem dX1_goStep_117 : decode cX1_goStep 117 = .ok (.iload_n 2, 1) := by decide +kernel
theorem dX1_goStep_118 : decode cX1_goStep 118 = .ok (.iaload, 1) := by decide +kernel
theorem dX1_goStep_119 : decode cX1_goStep 119 = .ok (.iconst (-1), 1) := by decide +kernel
theorem dX1_goStep_120 : decode cX1_goStep 120 = .ok (.if_icmp .eq 20, 3) := by decide +kernel
theorem dX1_goStep_123 : decode cX1_goStep 123 = .ok (.aload_n 0, 1) := by decide +kernel
theorem dX1_goStep_124 : decode cX1_goStep 124 = .ok (.aload_n 0, 1) := by decide +kernel
theorem dX1_goStep_125 : decode cX1_goStep 125 = .ok (.getfield 18, 3) := by decide +kernel
theorem dX1_goStep_128 : decode cX1_goStep 128 = .ok (.iload_n 2, 1) := by decide +kernel
theorem dX1_goStep_129 : decode cX1_goStep 129 = .ok (.iaload, 1) := by decide +kernel
theorem dX1_goStep_130 : decode cX1_goStep 130 = .ok (.iload_n 2, 1) := by decide +kernel
theorem dX1_goStep_131 : decode cX1_goStep 131 = .ok (.invokevirtual 77, 3) := by decide +kernel
theorem dX1_goStep_134 : decode cX1_goStep 134 = .ok (.iload_n 1, 1) := by decide +kernel
theorem dX1_goStep_135 : decode cX1_goStep 135 = .ok (.iconst 1, 1) := by decide +kernel
theorem dX1_goStep_136 : decode cX1_goStep 136 = .ok (.iload_n 2, 1) := by decide +kernel
theorem dX1_goStep_137 : decode cX1_goStep 137 = .ok (.ishl, 1) := by decide +kernel
theorem dX1_goStep_138 : decode cX1_goStep 138 = .ok (.ior, 1) := by decide +kernel
theorem dX1_goStep_139 : decode cX1_goStep 139 = .ok (.istore_n 1, 1) := by decide +kernel
theorem dX1_goStep_140 : decode cX1_goStep 140 = .ok (.iinc 2 1, 3) := by decide +kernel
theorem dX1_goStep_143 : decode cX1_goStep 143 = .ok (.goto (-68), 3) := by decide +kernel
theorem dX1_goStep_146 : decode cX1_goStep 146 = .ok (.aload_n 0, 1) := by decide +kernel
theorem dX1_goStep_147 : decode cX1_goStep 147 = .ok (.getfield 12, 3) := by decide +kernel
theorem dX1_goStep_150 : decode cX1_goStep 150 = .ok (.dup, 1) := by decide +kernel
theorem dX1_goStep_151 : decode cX1_goStep 151 = .ok (.getfield 81, 3) := by decide +kernel
theorem dX1_goStep_154 : decode cX1_goStep 154 = .ok (.iconst 1, 1) := by decide +kernel
theorem dX1_goStep_155 : decode cX1_goStep 155 = .ok (.iadd, 1) := by decide +kernel
theorem dX1_goStep_156 : decode cX1_goStep 156 = .ok (.putfield 81, 3) := by decide +kernel
theorem dX1_goStep_159 : decode cX1_goStep 159 = .ok (.iload_n 1, 1) := by decide +kernel
theorem dX1_goStep_160 : decode cX1_goStep 160 = .ok (.ireturn, 1) := by decide +kernel
theorem hd_X1_homeward : yX1_homeward.cls ≠ "java/lang/invoke/MethodHandle" ∧ yX1_homeward.cls ≠ "java/lang/invoke/VarHandle" ∧ (parseMethodDescriptor yX1_homeward.desc).map (fun d => d.parameters.length) = some 1 := ⟨by decide +kernel, by decide +kernel, by decide +kernel⟩
theorem hd_X1_ruledGoal : yX1_ruledGoal.cls ≠ "java/lang/invoke/MethodHandle" ∧ yX1_ruledGoal.cls ≠ "java/lang/invoke/VarHandle" ∧ (parseMethodDescriptor yX1_ruledGoal.desc).map (fun d => d.parameters.length) = some 1 := ⟨by decide +kernel, by decide +kernel, by decide +kernel⟩
theorem hd_X1_spring : yX1_spring.cls ≠ "java/lang/invoke/MethodHandle" ∧ yX1_spring.cls ≠ "java/lang/invoke/VarHandle" ∧ (parseMethodDescriptor yX1_spring.desc).map (fun d => d.parameters.length) = some 2 := ⟨by decide +kernel, by decide +kernel, by decide +kernel⟩
theorem hd_X8_lureThatHas : yX8_lureThatHas.cls ≠ "java/lang/invoke/MethodHandle" ∧ yX8_lureThatHas.cls ≠ "java/lang/invoke/VarHandle" ∧ (parseMethodDescriptor yX8_lureThatHas.desc).map (fun d => d.parameters.length) = some 3 := ⟨by decide +kernel, by decide +kernel, by decide +kernel⟩
set_option maxHeartbeats 4000000 in
set_option maxRecDepth 100000 in
theorem c_goStep (l : Launch) (D : va_G) (K : Nat → ClassId) (ad : Nat → Nat) (z : TS) (o : Ok z) : cI l yX1_goStep cX1_goStep 3 .int ({ frames := 4, cells := 0, slots := 0, locals := 102 }) D K ad z [.ref (ad 324)] (fun r u => Ok u ∧ KC z u) := by
  refine t_enterI (by decide) (Nat.le_of_ble_eq_true rfl) rfl rfl ?_
  intro p e s m args below meth c A R Q H locs ls E hfr hlo RET G hl
  have E : mE p s m meth c cX1_goStep args 3 RX1 D K A := E
  have hl : lv_has ls 3 [(0, .ref (ad 324))] := hl
  refine lv_iconst (v := 0) E.1 E.2.1 dX1_goStep_0 (by decide) ?_
  refine lv_istore_n (lv' := [(1, .int 0), (0, .ref (ad 324))]) E.1 E.2.1 dX1_goStep_1 rfl hl (by decide) rfl (fun ls hl => ?_)
  have LOOP2 : ∀ n : Nat, ∀ (zz2 : TS) (y1 : Int32) (H : Heap) (locs : List Loc) (ls : Array Slot), mG D A s H locs (wd K ad zz2) → Ok zz2 → KC z zz2 → iv 0 5 y1 → 5 < y1.toInt + (n : Int) → lv_has ls 3 [(1, .int y1), (0, .ref (ad 324))] → W p l e R s m args below meth c H locs 0 0 Q (F0 m 2 ls []) := by
    intro n
    induction n with
    | zero =>
      intro zz2 y1 H locs ls G oo3 kk4 b6 m5 hl
      exact absurd m5 (by have := b6.1; have := b6.2; omega)
    | succ n ih2 =>
      intro zz2 y1 H locs ls G oo3 kk4 b6 m5 hl
      refine lv_iload_n E.1 E.2.1 dX1_goStep_2 rfl (lv_at hl 0 rfl) ?_
      refine lv_aload_n E.1 E.2.1 dX1_goStep_3 rfl (lv_at hl 1 rfl) ?_
      refine t_get E G 1 4 (rfl : ro 324 = 1) (C := RX1) (T := TX1) (N := 6) rfl (by decide) (by decide) (by decide) mw_fl_1_31 (fvl_d rfl) dX1_goStep_4 ?_
      obtain ⟨qq7, eqq7⟩ : ∃ q : Nat, q = tP zz2 324 4 := ⟨_, rfl⟩
      have aqq7 : at_ 8 qq7 = true := by rw [eqq7]; exact oo3.p 1 4 (rfl : ro 324 = 1) (by decide)
      rw [← eqq7]
      refine t_get E G 8 3 (at_ro (i := 0) aqq7 (by decide) : ro qq7 = 8) (C := RX8) (T := TX8) (N := 10) rfl (by decide) (by decide) (by decide) mw_fl_1_50 (fvl_i rfl) dX1_goStep_7 ?_
      refine lv_topi (fun v8 e9 => ?_)
      have b10 : iv 0 5 v8 := by rw [e9]; exact oo3.i 8 3 (at_ro (i := 0) aqq7 (by decide) : ro qq7 = 8)
      refine lv_icmp_ge (tgt := 48) E.1 E.2.1 dX1_goStep_10 (by decide) (fun c11 => ?_) (fun c11 => ?_)
      · skip
        refine lv_aload_n E.1 E.2.1 dX1_goStep_48 rfl (lv_at hl 1 rfl) ?_
        refine t_get E G 1 2 (rfl : ro 324 = 1) (C := RX1) (T := TX1) (N := 6) rfl (by decide) (by decide) (by decide) mw_fl_1_22 (v := .ref (ad 333)) (fvl_o (n := 9) rfl) dX1_goStep_49 ?_
        refine lv_iconst (v := 0) E.1 E.2.1 dX1_goStep_52 (by decide) ?_
        refine lv_aload_n E.1 E.2.1 dX1_goStep_53 rfl (lv_at hl 1 rfl) ?_
        refine t_get E G 1 0 (rfl : ro 324 = 1) (C := RX1) (T := TX1) (N := 6) rfl (by decide) (by decide) (by decide) mw_fl_1_12 (v := .ref (ad 325)) (fvl_o (n := 1) rfl) dX1_goStep_54 ?_
        refine t_get E G 6 0 (rfl : ro 325 = 6) (C := RX6) (T := TX6) (N := 8) rfl (by decide) (by decide) (by decide) mw_fl_1_64 (v := .ref (ad 326)) (fvl_o (n := 1) rfl) dX1_goStep_57 ?_
        refine lv_iconst (v := 0) E.1 E.2.1 dX1_goStep_60 (by decide) ?_
        refine lv_aload_n E.1 E.2.1 dX1_goStep_61 rfl (lv_at hl 1 rfl) ?_
        refine t_get E G 1 4 (rfl : ro 324 = 1) (C := RX1) (T := TX1) (N := 6) rfl (by decide) (by decide) (by decide) mw_fl_1_31 (fvl_d rfl) dX1_goStep_62 ?_
        rw [eqq7.symm]
        refine t_get E G 8 3 (at_ro (i := 0) aqq7 (by decide) : ro qq7 = 8) (C := RX8) (T := TX8) (N := 10) rfl (by decide) (by decide) (by decide) mw_fl_1_50 (fvl_i rfl) dX1_goStep_65 ?_
        refine m_ci v8 e9.symm ?_
        refine t_copyi E G hl mw_ml_1_67 40 21 (rfl : ro 333 = 40) (rfl : ro 326 = 21) (by decide) (by decide) (by decide) (by decide) rfl rfl (n0 := 5) (n1 := 5) rfl rfl (by decide) (by decide) (ivnlt b10 (iv_lit (lo := 0) (hi := 0) 0 (by decide) (by decide)) (by decide)) (cp_le b10 (by decide) (by decide)) (cp_le b10 (by decide) (by decide)) (Nat.le_trans (by decide) hfr) (Nat.le_of_ble_eq_true rfl) (Nat.le_trans (by decide) hlo) dX1_goStep_68 (fun H locs G => ?_)
        obtain ⟨zz13, G, oo14, kk15, h16, h17⟩ : ∃ u : TS, mG D A s H locs (wd K ad u) ∧ Ok u ∧ KC z u ∧ tI u qq7 3 = v8 ∧ tP u 324 4 = qq7 := ⟨_, G, ok_cc oo3 40 21 (rfl : ro 333 = 40) (rfl : ro 326 = 21) (by decide) (by decide) (by decide) (by decide) (by decide), KC.tr kk4 (KC_r 21 (rfl : ro 326 = 21) (by decide)), e9.symm, eqq7.symm⟩
        refine lv_iconst (v := 0) E.1 E.2.1 dX1_goStep_71 (by decide) ?_
        refine lv_istore_n (lv' := [(1, .int 0), (0, .ref (ad 324))]) E.1 E.2.1 dX1_goStep_72 rfl hl (by decide) rfl (fun ls hl => ?_)
        refine lv_iconst (v := 0) E.1 E.2.1 dX1_goStep_73 (by decide) ?_
        refine lv_istore_n (lv' := [(2, .int 0), (1, .int 0), (0, .ref (ad 324))]) E.1 E.2.1 dX1_goStep_74 rfl hl (by decide) rfl (fun ls hl => ?_)
        have LOOP75 : ∀ n : Nat, ∀ (zz20 : TS) (y18 : Int32) (y19 : Int32) (H : Heap) (locs : List Loc) (ls : Array Slot), mG D A s H locs (wd K ad zz20) → Ok zz20 → KC z zz20 → iv 0 5 y18 → 5 < y18.toInt + (n : Int) → lv_has ls 3 [(2, .int y18), (1, .int y19), (0, .ref (ad 324))] → W p l e R s m args below meth c H locs 0 0 Q (F0 m 75 ls []) := by
          intro n
          induction n with
          | zero =>
            intro zz20 y18 y19 H locs ls G oo21 kk22 b24 m23 hl
            exact absurd m23 (by have := b24.1; have := b24.2; omega)
          | succ n ih75 =>
            intro zz20 y18 y19 H locs ls G oo21 kk22 b24 m23 hl
            refine lv_iload_n E.1 E.2.1 dX1_goStep_75 rfl (lv_at hl 0 rfl) ?_
            refine lv_aload_n E.1 E.2.1 dX1_goStep_76 rfl (lv_at hl 2 rfl) ?_
            refine t_get E G 1 4 (rfl : ro 324 = 1) (C := RX1) (T := TX1) (N := 6) rfl (by decide) (by decide) (by decide) mw_fl_1_31 (fvl_d rfl) dX1_goStep_77 ?_
            obtain ⟨qq25, eqq25⟩ : ∃ q : Nat, q = tP zz20 324 4 := ⟨_, rfl⟩
            have aqq25 : at_ 8 qq25 = true := by rw [eqq25]; exact oo21.p 1 4 (rfl : ro 324 = 1) (by decide)
            rw [← eqq25]
            refine t_get E G 8 3 (at_ro (i := 0) aqq25 (by decide) : ro qq25 = 8) (C := RX8) (T := TX8) (N := 10) rfl (by decide) (by decide) (by decide) mw_fl_1_50 (fvl_i rfl) dX1_goStep_80 ?_
            refine lv_topi (fun v26 e27 => ?_)
            have b28 : iv 0 5 v26 := by rw [e27]; exact oo21.i 8 3 (at_ro (i := 0) aqq25 (by decide) : ro qq25 = 8)
            refine lv_icmp_ge (tgt := 146) E.1 E.2.1 dX1_goStep_83 (by decide) (fun c29 => ?_) (fun c29 => ?_)
            · skip
              refine lv_aload_n E.1 E.2.1 dX1_goStep_146 rfl (lv_at hl 2 rfl) ?_
              refine t_get E G 1 0 (rfl : ro 324 = 1) (C := RX1) (T := TX1) (N := 6) rfl (by decide) (by decide) (by decide) mw_fl_1_12 (v := .ref (ad 325)) (fvl_o (n := 1) rfl) dX1_goStep_147 ?_
              refine lv_dup E.1 E.2.1 dX1_goStep_150 rfl ?_
              refine t_get E G 6 7 (rfl : ro 325 = 6) (C := RX6) (T := TX6) (N := 8) rfl (by decide) (by decide) (by decide) mw_fl_1_81 (fvl_i rfl) dX1_goStep_151 ?_
              refine lv_topi (fun v30 e31 => ?_)
              refine lv_iconst (v := 1) E.1 E.2.1 dX1_goStep_154 (by decide) ?_
              refine lv_iadd E.1 E.2.1 dX1_goStep_155 ?_
              refine lv_topi (fun v32 e33 => ?_)
              refine t_puti E G 6 7 (rfl : ro 325 = 6) (C := RX6) (T := TX6) (N := 8) rfl (by decide) (by decide) (by decide) rfl rfl mw_fl_1_81 rfl dX1_goStep_156 (fun H locs G => ?_)
              obtain ⟨zz34, G, oo35, kk36, h37, h38, h39⟩ : ∃ u : TS, mG D A s H locs (wd K ad u) ∧ Ok u ∧ KC z u ∧ tI u qq25 3 = v26 ∧ tI u 325 7 = v32 ∧ tP u 324 4 = qq25 := ⟨_, G, ok_i oo21 6 (rfl : ro 325 = 6) (iv_mono (iv_full v32) (by decide) (by decide)) (by decide), KC.tr kk22 (KC_i 6 (rfl : ro 325 = 6) (by decide)), (sI_k e27.symm (by decide)), sI_self, eqq25.symm⟩
              refine lv_iload_n E.1 E.2.1 dX1_goStep_159 rfl (lv_at hl 1 rfl) ?_
              exact RET G ⟨oo35, kk36⟩ rfl dX1_goStep_160
            · skip
              have b40 : iv 0 4 y18 := lt_l (Int32.not_le.mp c29) b24 b28 (by decide)
              have b41 : iv 1 5 v26 := lt_r (Int32.not_le.mp c29) b24 b28 (by decide)
              refine lv_aload_n E.1 E.2.1 dX1_goStep_86 rfl (lv_at hl 2 rfl) ?_
              refine t_get E G 1 1 (rfl : ro 324 = 1) (C := RX1) (T := TX1) (N := 6) rfl (by decide) (by decide) (by decide) mw_fl_1_18 (v := .ref (ad 332)) (fvl_o (n := 8) rfl) dX1_goStep_87 ?_
              refine lv_iload_n E.1 E.2.1 dX1_goStep_90 rfl (lv_at hl 0 rfl) ?_
              refine lv_aload_n E.1 E.2.1 dX1_goStep_91 rfl (lv_at hl 2 rfl) ?_
              refine t_get E G 1 4 (rfl : ro 324 = 1) (C := RX1) (T := TX1) (N := 6) rfl (by decide) (by decide) (by decide) mw_fl_1_31 (fvl_d rfl) dX1_goStep_92 ?_
              rw [eqq25.symm]
              refine lv_aload_n E.1 E.2.1 dX1_goStep_95 rfl (lv_at hl 2 rfl) ?_
              refine t_get E G 1 0 (rfl : ro 324 = 1) (C := RX1) (T := TX1) (N := 6) rfl (by decide) (by decide) (by decide) mw_fl_1_12 (v := .ref (ad 325)) (fvl_o (n := 1) rfl) dX1_goStep_96 ?_
              refine lv_iload_n E.1 E.2.1 dX1_goStep_99 rfl (lv_at hl 0 rfl) ?_
              refine lv_aload_n E.1 E.2.1 dX1_goStep_100 rfl (lv_at hl 2 rfl) ?_
              refine t_get E G 1 0 (rfl : ro 324 = 1) (C := RX1) (T := TX1) (N := 6) rfl (by decide) (by decide) (by decide) mw_fl_1_12 (v := .ref (ad 325)) (fvl_o (n := 1) rfl) dX1_goStep_101 ?_
              refine t_get E G 6 0 (rfl : ro 325 = 6) (C := RX6) (T := TX6) (N := 8) rfl (by decide) (by decide) (by decide) mw_fl_1_64 (v := .ref (ad 326)) (fvl_o (n := 1) rfl) dX1_goStep_104 ?_
              refine lv_iload_n E.1 E.2.1 dX1_goStep_107 rfl (lv_at hl 0 rfl) ?_
              refine t_iald E G 21 (rfl : ro 326 = 21) (by decide) (by decide) rfl (n := 5) rfl (iv_vp b40 (by decide) (by decide)) dX1_goStep_108 ?_
              refine lv_topi (fun v43 e44 => ?_)
              have b45 : iv 0 7 v43 := by rw [e44]; exact oo21.ac 21 (rfl : ro 326 = 21) (by decide) _
              refine t_vi E G hl (t_has l D K ad zz20 oo21 qq25 aqq25 325 (by decide : at_ 6 325 = true) y18 (iv_mono b40 (by decide) (by decide)) v43) 8 (at_ro (i := 0) aqq25 (by decide) : ro qq25 = 8) (by decide) rfl rfl 3 rfl mw_code_X8_lureThatHas mw_ini_8 mw_ml_1_73 mw_inst_X8_lureThatHas mw_sel_X8_lureThatHas hd_X8_lureThatHas ⟨Nat.le_trans (by decide) hfr, Nat.le_trans (by decide) hlo⟩ rfl rfl rfl (Nat.le_of_ble_eq_true rfl) dX1_goStep_109 (fun r47 zz46 H locs hp48 G => ?_)
              obtain ⟨hz50, b49⟩ := hp48
              rw [hz50] at G
              refine t_iast E G 39 (rfl : ro 332 = 39) (by decide) (by decide) rfl (n := 5) rfl (iv_vp b40 (by decide) (by decide)) dX1_goStep_112 (fun H locs G => ?_)
              obtain ⟨zz51, G, oo52, kk53, h54, h55⟩ : ∃ u : TS, mG D A s H locs (wd K ad u) ∧ Ok u ∧ KC z u ∧ tI u qq25 3 = v26 ∧ tP u 324 4 = qq25 := ⟨_, G, ok_uc oo21 39 (rfl : ro 332 = 39) (by decide) (iv_mono b49 (by decide) (by decide)) (by decide), KC.tr kk22 (KC_r 39 (rfl : ro 332 = 39) (by decide)), e27.symm, eqq25.symm⟩
              refine lv_aload_n E.1 E.2.1 dX1_goStep_113 rfl (lv_at hl 2 rfl) ?_
              refine t_get E G 1 1 (rfl : ro 324 = 1) (C := RX1) (T := TX1) (N := 6) rfl (by decide) (by decide) (by decide) mw_fl_1_18 (v := .ref (ad 332)) (fvl_o (n := 8) rfl) dX1_goStep_114 ?_
              refine lv_iload_n E.1 E.2.1 dX1_goStep_117 rfl (lv_at hl 0 rfl) ?_
              refine t_iald E G 39 (rfl : ro 332 = 39) (by decide) (by decide) rfl (n := 5) rfl (iv_vp b40 (by decide) (by decide)) dX1_goStep_118 ?_
              refine lv_topi (fun v56 e57 => ?_)
              have b58 : iv (-1) 5 v56 := by rw [e57]; exact oo52.ac 39 (rfl : ro 332 = 39) (by decide) _
              refine lv_iconst (v := (-1)) E.1 E.2.1 dX1_goStep_119 (by decide) ?_
              refine lv_icmp_eq (tgt := 140) E.1 E.2.1 dX1_goStep_120 (by decide) (fun c59 => ?_) (fun c59 => ?_)
              · skip
                have b60 : iv (-1) (-1) v56 := iv_eq c59 (iv_lit (lo := (-1)) (hi := (-1)) (-1) (by decide) (by decide))
                obtain ⟨v61, e62⟩ : ∃ w : Int32, w = y18 + (1 : Int32) := ⟨_, rfl⟩
                refine lv_iinc (v := v61) (lv' := [(2, .int v61), (1, .int y19), (0, .ref (ad 324))]) E.1 E.2.1 dX1_goStep_140 hl (k := 0) rfl (by rw [e62]; rfl) (by decide) rfl (fun ls hl => ?_)
                have b63 : iv 1 5 v61 := by rw [e62]; exact iv_add b40 (iv_lit (lo := 1) (hi := 1) 1 (by decide) (by decide)) (by decide) (by decide) (by decide) (by decide)
                have t64 : v61.toInt = y18.toInt + 1 := by rw [e62]; exact ti_addc 1 (by decide) b40 (by decide) (by decide)
                refine lv_goto (tgt := 75) E.1 E.2.1 dX1_goStep_143 (by decide) ?_
                exact ih75 zz51 v61 y19 H locs ls G oo52 kk53 (iv_mono b63 (by decide) (by decide)) (by have := t64; have := m23; omega) (lv_sub hl [0, 1, 2] rfl)
              · skip
                have b65 : iv 0 5 v56 := ne_lo c59 b58 (by decide) (by decide)
                refine lv_aload_n E.1 E.2.1 dX1_goStep_123 rfl (lv_at hl 2 rfl) ?_
                refine lv_aload_n E.1 E.2.1 dX1_goStep_124 rfl (lv_at hl 2 rfl) ?_
                refine t_get E G 1 1 (rfl : ro 324 = 1) (C := RX1) (T := TX1) (N := 6) rfl (by decide) (by decide) (by decide) mw_fl_1_18 (v := .ref (ad 332)) (fvl_o (n := 8) rfl) dX1_goStep_125 ?_
                refine lv_iload_n E.1 E.2.1 dX1_goStep_128 rfl (lv_at hl 0 rfl) ?_
                refine t_iald E G 39 (rfl : ro 332 = 39) (by decide) (by decide) rfl (n := 5) rfl (iv_vp b40 (by decide) (by decide)) dX1_goStep_129 ?_
                refine m_ci v56 e57.symm ?_
                refine lv_iload_n E.1 E.2.1 dX1_goStep_130 rfl (lv_at hl 0 rfl) ?_
                refine t_vv E G hl (c_spring l D K ad zz51 oo52 v56 (iv_mono b65 (by decide) (by decide)) y18 (iv_mono b40 (by decide) (by decide))) 1 (rfl : ro 324 = 1) (by decide) rfl rfl 2 rfl mw_code_X1_spring mw_ini_1 mw_ml_1_77 mw_inst_X1_spring mw_sel_X1_spring hd_X1_spring ⟨Nat.le_trans (by decide) hfr, Nat.le_trans (by decide) hlo⟩ rfl rfl rfl (Nat.le_of_ble_eq_true rfl) dX1_goStep_131 (fun zz66 H locs hp68 G => ?_)
                obtain ⟨oo69, kk70⟩ := hp68
                have kk71 : KC z zz66 := KC.tr kk53 kk70
                refine lv_iload_n E.1 E.2.1 dX1_goStep_134 rfl (lv_at hl 1 rfl) ?_
                refine lv_iconst (v := 1) E.1 E.2.1 dX1_goStep_135 (by decide) ?_
                refine lv_iload_n E.1 E.2.1 dX1_goStep_136 rfl (lv_at hl 0 rfl) ?_
                refine lv_ishl E.1 E.2.1 dX1_goStep_137 ?_
                refine lv_topi (fun v72 e73 => ?_)
                have b74 : iv 1 256 v72 := by rw [e73]; exact iv_shl8 (iv_mono b40 (by decide) (by decide))
                refine lv_ior E.1 E.2.1 dX1_goStep_138 ?_
                refine lv_topi (fun v75 e76 => ?_)
                refine lv_istore_n (lv' := [(1, .int v75), (2, .int y18), (0, .ref (ad 324))]) E.1 E.2.1 dX1_goStep_139 rfl hl (by decide) rfl (fun ls hl => ?_)
                obtain ⟨v77, e78⟩ : ∃ w : Int32, w = y18 + (1 : Int32) := ⟨_, rfl⟩
                refine lv_iinc (v := v77) (lv' := [(2, .int v77), (1, .int v75), (0, .ref (ad 324))]) E.1 E.2.1 dX1_goStep_140 hl (k := 1) rfl (by rw [e78]; rfl) (by decide) rfl (fun ls hl => ?_)
                have b79 : iv 1 5 v77 := by rw [e78]; exact iv_add b40 (iv_lit (lo := 1) (hi := 1) 1 (by decide) (by decide)) (by decide) (by decide) (by decide) (by decide)
                have t80 : v77.toInt = y18.toInt + 1 := by rw [e78]; exact ti_addc 1 (by decide) b40 (by decide) (by decide)
                refine lv_goto (tgt := 75) E.1 E.2.1 dX1_goStep_143 (by decide) ?_
                exact ih75 zz66 v77 v75 H locs ls G oo69 kk71 (iv_mono b79 (by decide) (by decide)) (by have := t80; have := m23; omega) (lv_sub hl [0, 1, 2] rfl)
        exact LOOP75 6 zz13 0 0 H locs ls G oo14 kk15 (iv_mono (iv_lit (lo := 0) (hi := 0) 0 (by decide) (by decide)) (by decide) (by decide)) (by have := (iv_lit (lo := 0) (hi := 0) 0 (by decide) (by decide)).1; omega) (lv_sub hl [0, 1, 2] rfl)
      · skip
        have b81 : iv 0 4 y1 := lt_l (Int32.not_le.mp c11) b6 b10 (by decide)
        have b82 : iv 1 5 v8 := lt_r (Int32.not_le.mp c11) b6 b10 (by decide)
        refine lv_aload_n E.1 E.2.1 dX1_goStep_13 rfl (lv_at hl 1 rfl) ?_
        refine t_get E G 1 2 (rfl : ro 324 = 1) (C := RX1) (T := TX1) (N := 6) rfl (by decide) (by decide) (by decide) mw_fl_1_22 (v := .ref (ad 333)) (fvl_o (n := 9) rfl) dX1_goStep_14 ?_
        refine lv_iload_n E.1 E.2.1 dX1_goStep_17 rfl (lv_at hl 0 rfl) ?_
        refine lv_aload_n E.1 E.2.1 dX1_goStep_18 rfl (lv_at hl 1 rfl) ?_
        refine t_get E G 1 5 (rfl : ro 324 = 1) (C := RX1) (T := TX1) (N := 6) rfl (by decide) (by decide) (by decide) mw_fl_1_38 (fvl_d rfl) dX1_goStep_19 ?_
        obtain ⟨qq83, eqq83⟩ : ∃ q : Nat, q = tP zz2 324 5 := ⟨_, rfl⟩
        have aqq83 : at_ 4 qq83 = true := by rw [eqq83]; exact oo3.p 1 5 (rfl : ro 324 = 1) (by decide)
        rw [← eqq83]
        refine t_get E G 4 0 (at_ro (i := 0) aqq83 (by decide) : ro qq83 = 4) (C := RX4) (T := TX4) (N := 6) rfl (by decide) (by decide) (by decide) mw_fl_1_54 (fvl_i rfl) dX1_goStep_22 ?_
        refine lv_topi (fun v84 e85 => ?_)
        have b86 : iv 0 12 v84 := by rw [e85]; exact oo3.i 4 0 (at_ro (i := 0) aqq83 (by decide) : ro qq83 = 4)
        refine lv_if_ne (tgt := 36) E.1 E.2.1 dX1_goStep_25 (by decide) (fun c87 => ?_) (fun c87 => ?_)
        · skip
          have b88 : iv 1 12 v84 := ne_lo c87 b86 (by decide) (by decide)
          refine lv_aload_n E.1 E.2.1 dX1_goStep_36 rfl (lv_at hl 1 rfl) ?_
          refine lv_iload_n E.1 E.2.1 dX1_goStep_37 rfl (lv_at hl 0 rfl) ?_
          refine t_vi E G hl (c_ruledGoal l D K ad zz2 oo3 y1 (iv_mono b81 (by decide) (by decide))) 1 (rfl : ro 324 = 1) (by decide) rfl rfl 1 rfl mw_code_X1_ruledGoal mw_ini_1 mw_ml_1_61 mw_inst_X1_ruledGoal mw_sel_X1_ruledGoal hd_X1_ruledGoal ⟨Nat.le_trans (by decide) hfr, Nat.le_trans (by decide) hlo⟩ rfl rfl rfl (Nat.le_of_ble_eq_true rfl) dX1_goStep_38 (fun r90 zz89 H locs hp91 G => ?_)
          obtain ⟨oo92, kk93, b94⟩ := hp91
          have kk95 : KC z zz89 := KC.tr kk4 kk93
          refine t_iast E G 40 (rfl : ro 333 = 40) (by decide) (by decide) rfl (n := 5) rfl (iv_vp b81 (by decide) (by decide)) dX1_goStep_41 (fun H locs G => ?_)
          obtain ⟨zz96, G, oo97, kk98⟩ : ∃ u : TS, mG D A s H locs (wd K ad u) ∧ Ok u ∧ KC z u := ⟨_, G, ok_uc oo92 40 (rfl : ro 333 = 40) (by decide) (iv_mono b94 (by decide) (by decide)) (by decide), KC.tr kk95 (KC_r 40 (rfl : ro 333 = 40) (by decide))⟩
          obtain ⟨v99, e100⟩ : ∃ w : Int32, w = y1 + (1 : Int32) := ⟨_, rfl⟩
          refine lv_iinc (v := v99) (lv' := [(1, .int v99), (0, .ref (ad 324))]) E.1 E.2.1 dX1_goStep_42 hl (k := 0) rfl (by rw [e100]; rfl) (by decide) rfl (fun ls hl => ?_)
          have b101 : iv 1 5 v99 := by rw [e100]; exact iv_add b81 (iv_lit (lo := 1) (hi := 1) 1 (by decide) (by decide)) (by decide) (by decide) (by decide) (by decide)
          have t102 : v99.toInt = y1.toInt + 1 := by rw [e100]; exact ti_addc 1 (by decide) b81 (by decide) (by decide)
          refine lv_goto (tgt := 2) E.1 E.2.1 dX1_goStep_45 (by decide) ?_
          exact ih2 zz96 v99 H locs ls G oo97 kk98 (iv_mono b101 (by decide) (by decide)) (by have := t102; have := m5; omega) (lv_sub hl [0, 1] rfl)
        · skip
          have b103 : iv 0 0 v84 := iv_eq c87 (iv_lit (lo := 0) (hi := 0) 0 (by decide) (by decide))
          refine lv_aload_n E.1 E.2.1 dX1_goStep_28 rfl (lv_at hl 1 rfl) ?_
          refine lv_iload_n E.1 E.2.1 dX1_goStep_29 rfl (lv_at hl 0 rfl) ?_
          refine t_vi E G hl (c_homeward l D K ad zz2 oo3 y1 (iv_mono b81 (by decide) (by decide))) 1 (rfl : ro 324 = 1) (by decide) rfl rfl 1 rfl mw_code_X1_homeward mw_ini_1 mw_ml_1_57 mw_inst_X1_homeward mw_sel_X1_homeward hd_X1_homeward ⟨Nat.le_trans (by decide) hfr, Nat.le_trans (by decide) hlo⟩ rfl rfl rfl (Nat.le_of_ble_eq_true rfl) dX1_goStep_30 (fun r105 zz104 H locs hp106 G => ?_)
          obtain ⟨hz108, b107⟩ := hp106
          rw [hz108] at G
          refine lv_goto (tgt := 41) E.1 E.2.1 dX1_goStep_33 (by decide) ?_
          refine t_iast E G 40 (rfl : ro 333 = 40) (by decide) (by decide) rfl (n := 5) rfl (iv_vp b81 (by decide) (by decide)) dX1_goStep_41 (fun H locs G => ?_)
          obtain ⟨zz109, G, oo110, kk111, h112, h113, h114, h115⟩ : ∃ u : TS, mG D A s H locs (wd K ad u) ∧ Ok u ∧ KC z u ∧ tI u qq7 3 = v8 ∧ tI u qq83 0 = v84 ∧ tP u 324 4 = qq7 ∧ tP u 324 5 = qq83 := ⟨_, G, ok_uc oo3 40 (rfl : ro 333 = 40) (by decide) (iv_mono b107 (by decide) (by decide)) (by decide), KC.tr kk4 (KC_r 40 (rfl : ro 333 = 40) (by decide)), e9.symm, e85.symm, eqq7.symm, eqq83.symm⟩
          obtain ⟨v116, e117⟩ : ∃ w : Int32, w = y1 + (1 : Int32) := ⟨_, rfl⟩
          refine lv_iinc (v := v116) (lv' := [(1, .int v116), (0, .ref (ad 324))]) E.1 E.2.1 dX1_goStep_42 hl (k := 0) rfl (by rw [e117]; rfl) (by decide) rfl (fun ls hl => ?_)
          have b118 : iv 1 5 v116 := by rw [e117]; exact iv_add b81 (iv_lit (lo := 1) (hi := 1) 1 (by decide) (by decide)) (by decide) (by decide) (by decide) (by decide)
          have t119 : v116.toInt = y1.toInt + 1 := by rw [e117]; exact ti_addc 1 (by decide) b81 (by decide) (by decide)
          refine lv_goto (tgt := 2) E.1 E.2.1 dX1_goStep_45 (by decide) ?_
          exact ih2 zz109 v116 H locs ls G oo110 kk111 (iv_mono b118 (by decide) (by decide)) (by have := t119; have := m5; omega) (lv_sub hl [0, 1] rfl)
  exact LOOP2 6 z 0 H locs ls G o KC.rf (iv_mono (iv_lit (lo := 0) (hi := 0) 0 (by decide) (by decide)) (by decide) (by decide)) (by have := (iv_lit (lo := 0) (hi := 0) 0 (by decide) (by decide)).1; omega) (lv_sub hl [0, 1] rfl)
