theorem mw_code_J0_checkIndex_df160 : (Cond.code yJ0_checkIndex_df160 cJ0_checkIndex_df160 2 none : Cond) ∈ cw := cw_of (List.mem_append_right _ (List.mem_append_right _ (List.mem_append_right _ (List.mem_append_left _ (List.mem_of_getElem? (i := 16) rfl))))) (by decide +kernel)
theorem mw_code_J0_coder_7d493 : (Cond.code yJ0_coder_7d493 cJ0_coder_7d493 1 (some .byte) : Cond) ∈ cw := cw_of (List.mem_append_right _ (List.mem_append_right _ (List.mem_append_right _ (List.mem_append_left _ (List.mem_of_getElem? (i := 0) rfl))))) (by decide +kernel)
theorem mw_code_J0_isLatin1_aae02 : (Cond.code yJ0_isLatin1_aae02 cJ0_isLatin1_aae02 1 (some .boolean) : Cond) ∈ cw := cw_of (List.mem_append_right _ (List.mem_append_right _ (List.mem_append_right _ (List.mem_append_left _ (List.mem_of_getElem? (i := 10) rfl))))) (by decide +kernel)
theorem mw_code_J1_charAt_3b067 : (Cond.code yJ1_charAt_3b067 cJ1_charAt_3b067 2 (some .char) : Cond) ∈ cw := cw_of (List.mem_append_right _ (List.mem_append_right _ (List.mem_append_right _ (List.mem_append_left _ (List.mem_of_getElem? (i := 13) rfl))))) (by decide +kernel)
theorem mw_code_J3_checkIndex_8e157 : (Cond.code yJ3_checkIndex_8e157 cJ3_checkIndex_8e157 3 (some .int) : Cond) ∈ cw := cw_of (List.mem_append_right _ (List.mem_append_right _ (List.mem_append_right _ (List.mem_append_left _ (List.mem_of_getElem? (i := 21) rfl))))) (by decide +kernel)
theorem mw_fl_J0_1053 : (Cond.fieldLink RJ0 1053 "jdk/internal/util/Preconditions" "SIOOBE_FORMATTER" "Ljava/util/function/BiFunction;" : Cond) ∈ cw := cw_of (List.mem_append_right _ (List.mem_append_right _ (List.mem_append_right _ (List.mem_append_left _ (List.mem_of_getElem? (i := 17) (by decide +kernel)))))) (by decide +kernel)
theorem mw_fl_J0_15 : (Cond.fieldLink RJ0 15 "java/lang/String" "coder" "B" : Cond) ∈ cw := cw_of (List.mem_append_right _ (List.mem_append_right _ (List.mem_append_right _ (List.mem_append_right _ (List.mem_append_right _ (List.mem_append_right _ (List.mem_append_right _ (List.mem_append_right _ (List.mem_of_getElem? (i := 16) (by decide +kernel)))))))))) (by decide +kernel)
theorem mw_fl_J0_38 : (Cond.fieldLink RJ0 38 "java/lang/String" "COMPACT_STRINGS" "Z" : Cond) ∈ cw := cw_of (List.mem_append_right _ (List.mem_append_right _ (List.mem_append_right _ (List.mem_append_left _ (List.mem_of_getElem? (i := 1) (by decide +kernel)))))) (by decide +kernel)
theorem mw_fl_J0_9 : (Cond.fieldLink RJ0 9 "java/lang/String" "value" "[B" : Cond) ∈ cw := cw_of (List.mem_append_right _ (List.mem_append_right _ (List.mem_append_right _ (List.mem_append_right _ (List.mem_append_right _ (List.mem_append_right _ (List.mem_append_right _ (List.mem_append_right _ (List.mem_of_getElem? (i := 15) (by decide +kernel)))))))))) (by decide +kernel)
theorem mw_ini_J0 : (Cond.initialized RJ0 : Cond) ∈ cw := cw_of (List.mem_append_right _ (List.mem_append_left _ (List.mem_of_getElem? (i := 13) (by decide +kernel)))) (by decide +kernel)
theorem mw_ini_J1 : (Cond.initialized RJ1 : Cond) ∈ cw := cw_of (List.mem_append_right _ (List.mem_append_left _ (List.mem_of_getElem? (i := 14) (by decide +kernel)))) (by decide +kernel)
theorem mw_ini_J3 : (Cond.initialized RJ3 : Cond) ∈ cw := cw_of (List.mem_append_right _ (List.mem_append_left _ (List.mem_of_getElem? (i := 15) (by decide +kernel)))) (by decide +kernel)
theorem mw_inst_J0_coder_7d493 : (Cond.instanceMethod yJ0_coder_7d493 : Cond) ∈ cw := cw_of (List.mem_append_right _ (List.mem_append_right _ (List.mem_append_left _ (List.mem_of_getElem? (i := 238) (by decide +kernel))))) (by decide +kernel)
theorem mw_inst_J0_isLatin1_aae02 : (Cond.instanceMethod yJ0_isLatin1_aae02 : Cond) ∈ cw := cw_of (List.mem_append_right _ (List.mem_append_right _ (List.mem_append_right _ (List.mem_append_left _ (List.mem_of_getElem? (i := 8) (by decide +kernel)))))) (by decide +kernel)
theorem mw_ml_J0_1059 : (Cond.methodLink RJ0 1059 yJ3_checkIndex_8e157 : Cond) ∈ cw := cw_of (List.mem_append_right _ (List.mem_append_right _ (List.mem_append_right _ (List.mem_append_left _ (List.mem_of_getElem? (i := 19) (by decide +kernel)))))) (by decide +kernel)
theorem mw_ml_J0_335 : (Cond.methodLink RJ0 335 yJ0_coder_7d493 : Cond) ∈ cw := cw_of (List.mem_append_right _ (List.mem_append_right _ (List.mem_append_left _ (List.mem_of_getElem? (i := 237) (by decide +kernel))))) (by decide +kernel)
theorem mw_ml_J0_492 : (Cond.methodLink RJ0 492 yJ0_isLatin1_aae02 : Cond) ∈ cw := cw_of (List.mem_append_right _ (List.mem_append_right _ (List.mem_append_right _ (List.mem_append_left _ (List.mem_of_getElem? (i := 7) (by decide +kernel)))))) (by decide +kernel)
theorem mw_ml_J0_495 : (Cond.methodLink RJ0 495 yJ1_charAt_3b067 : Cond) ∈ cw := cw_of (List.mem_append_right _ (List.mem_append_right _ (List.mem_append_right _ (List.mem_append_left _ (List.mem_of_getElem? (i := 11) (by decide +kernel)))))) (by decide +kernel)
theorem mw_ml_J1_9 : (Cond.methodLink RJ1 9 yJ0_checkIndex_df160 : Cond) ∈ cw := cw_of (List.mem_append_right _ (List.mem_append_right _ (List.mem_append_right _ (List.mem_append_left _ (List.mem_of_getElem? (i := 14) (by decide +kernel)))))) (by decide +kernel)
theorem mw_sel_J0_coder_7d493 : (Cond.selects RJ0 yJ0_coder_7d493 yJ0_coder_7d493 : Cond) ∈ cw := cw_of (List.mem_append_right _ (List.mem_append_right _ (List.mem_append_left _ (List.mem_of_getElem? (i := 239) (by decide +kernel))))) (by decide +kernel)
theorem mw_sel_J0_isLatin1_aae02 : (Cond.selects RJ0 yJ0_isLatin1_aae02 yJ0_isLatin1_aae02 : Cond) ∈ cw := cw_of (List.mem_append_right _ (List.mem_append_right _ (List.mem_append_right _ (List.mem_append_left _ (List.mem_of_getElem? (i := 9) (by decide +kernel)))))) (by decide +kernel)
theorem mw_stat_J0_checkIndex_df160 : (Cond.static yJ0_checkIndex_df160 : Cond) ∈ cw := cw_of (List.mem_append_right _ (List.mem_append_right _ (List.mem_append_right _ (List.mem_append_left _ (List.mem_of_getElem? (i := 15) (by decide +kernel)))))) (by decide +kernel)
theorem mw_stat_J1_charAt_3b067 : (Cond.static yJ1_charAt_3b067 : Cond) ∈ cw := cw_of (List.mem_append_right _ (List.mem_append_right _ (List.mem_append_right _ (List.mem_append_left _ (List.mem_of_getElem? (i := 12) (by decide +kernel)))))) (by decide +kernel)
theorem mw_stat_J3_checkIndex_8e157 : (Cond.static yJ3_checkIndex_8e157 : Cond) ∈ cw := cw_of (List.mem_append_right _ (List.mem_append_right _ (List.mem_append_right _ (List.mem_append_left _ (List.mem_of_getElem? (i := 20) (by decide +kernel)))))) (by decide +kernel)
theorem dJ0_charAt_5068e_0 : decode cJ0_charAt_5068e 0 = .ok (.aload_n 0, 1) := by decide +kernel
theorem dJ0_charAt_5068e_1 : decode cJ0_charAt_5068e 1 = .ok (.invokevirtual 492, 3) := by decide +kernel
theorem dJ0_charAt_5068e_4 : decode cJ0_charAt_5068e 4 = .ok (.ifCond .eq 12, 3) := by decide +kernel
theorem dJ0_charAt_5068e_7 : decode cJ0_charAt_5068e 7 = .ok (.aload_n 0, 1) := by decide +kernel
theorem dJ0_charAt_5068e_8 : decode cJ0_charAt_5068e 8 = .ok (.getfield 9, 3) := by decide +kernel
theorem dJ0_charAt_5068e_11 : decode cJ0_charAt_5068e 11 = .ok (.iload_n 1, 1) := by decide +kernel
theorem dJ0_charAt_5068e_12 : decode cJ0_charAt_5068e 12 = .ok (.invokestatic 495, 3) := by decide +kernel
theorem dJ0_charAt_5068e_15 : decode cJ0_charAt_5068e 15 = .ok (.ireturn, 1) := by decide +kernel
theorem dJ0_checkIndex_df160_0 : decode cJ0_checkIndex_df160 0 = .ok (.iload_n 0, 1) := by decide +kernel
theorem dJ0_checkIndex_df160_1 : decode cJ0_checkIndex_df160 1 = .ok (.iload_n 1, 1) := by decide +kernel
theorem dJ0_checkIndex_df160_2 : decode cJ0_checkIndex_df160 2 = .ok (.getstatic 1053, 3) := by decide +kernel
theorem dJ0_checkIndex_df160_5 : decode cJ0_checkIndex_df160 5 = .ok (.invokestatic 1059, 3) := by decide +kernel
theorem dJ0_checkIndex_df160_8 : decode cJ0_checkIndex_df160 8 = .ok (.pop, 1) := by decide +kernel
theorem dJ0_checkIndex_df160_9 : decode cJ0_checkIndex_df160 9 = .ok (.return_, 1) := by decide +kernel
theorem dJ0_coder_7d493_0 : decode cJ0_coder_7d493 0 = .ok (.getstatic 38, 3) := by decide +kernel
theorem dJ0_coder_7d493_3 : decode cJ0_coder_7d493 3 = .ok (.ifCond .eq 10, 3) := by decide +kernel
theorem dJ0_coder_7d493_6 : decode cJ0_coder_7d493 6 = .ok (.aload_n 0, 1) := by decide +kernel
theorem dJ0_coder_7d493_7 : decode cJ0_coder_7d493 7 = .ok (.getfield 15, 3) := by decide +kernel
theorem dJ0_coder_7d493_10 : decode cJ0_coder_7d493 10 = .ok (.goto 4, 3) := by decide +kernel
theorem dJ0_coder_7d493_14 : decode cJ0_coder_7d493 14 = .ok (.ireturn, 1) := by decide +kernel
theorem dJ0_isLatin1_aae02_0 : decode cJ0_isLatin1_aae02 0 = .ok (.getstatic 38, 3) := by decide +kernel
theorem dJ0_isLatin1_aae02_3 : decode cJ0_isLatin1_aae02 3 = .ok (.ifCond .eq 14, 3) := by decide +kernel
theorem dJ0_isLatin1_aae02_6 : decode cJ0_isLatin1_aae02 6 = .ok (.aload_n 0, 1) := by decide +kernel
theorem dJ0_isLatin1_aae02_7 : decode cJ0_isLatin1_aae02 7 = .ok (.getfield 15, 3) := by decide +kernel
theorem dJ0_isLatin1_aae02_10 : decode cJ0_isLatin1_aae02 10 = .ok (.ifCond .ne 7, 3) := by decide +kernel
theorem dJ0_isLatin1_aae02_13 : decode cJ0_isLatin1_aae02 13 = .ok (.iconst 1, 1) := by decide +kernel
theorem dJ0_isLatin1_aae02_14 : decode cJ0_isLatin1_aae02 14 = .ok (.goto 4, 3) := by decide +kernel
theorem dJ0_isLatin1_aae02_18 : decode cJ0_isLatin1_aae02 18 = .ok (.ireturn, 1) := by decide +kernel
theorem dJ0_length_8abf5_0 : decode cJ0_length_8abf5 0 = .ok (.aload_n 0, 1) := by decide +kernel
theorem dJ0_length_8abf5_1 : decode cJ0_length_8abf5 1 = .ok (.getfield 9, 3) := by decide +kernel
theorem dJ0_length_8abf5_4 : decode cJ0_length_8abf5 4 = .ok (.arraylength, 1) := by decide +kernel
theorem dJ0_length_8abf5_5 : decode cJ0_length_8abf5 5 = .ok (.aload_n 0, 1) := by decide +kernel
theorem dJ0_length_8abf5_6 : decode cJ0_length_8abf5 6 = .ok (.invokevirtual 335, 3) := by decide +kernel
theorem dJ0_length_8abf5_9 : decode cJ0_length_8abf5 9 = .ok (.ishr, 1) := by decide +kernel
theorem dJ0_length_8abf5_10 : decode cJ0_length_8abf5 10 = .ok (.ireturn, 1) := by decide +kernel
theorem dJ1_charAt_3b067_0 : decode cJ1_charAt_3b067 0 = .ok (.iload_n 1, 1) := by decide +kernel
theorem dJ1_charAt_3b067_1 : decode cJ1_charAt_3b067 1 = .ok (.aload_n 0, 1) := by decide +kernel
theorem dJ1_charAt_3b067_2 : decode cJ1_charAt_3b067 2 = .ok (.arraylength, 1) := by decide +kernel
theorem dJ1_charAt_3b067_3 : decode cJ1_charAt_3b067 3 = .ok (.invokestatic 9, 3) := by decide +kernel
theorem dJ1_charAt_3b067_6 : decode cJ1_charAt_3b067 6 = .ok (.aload_n 0, 1) := by decide +kernel
theorem dJ1_charAt_3b067_7 : decode cJ1_charAt_3b067 7 = .ok (.iload_n 1, 1) := by decide +kernel
theorem dJ1_charAt_3b067_8 : decode cJ1_charAt_3b067 8 = .ok (.baload, 1) := by decide +kernel
theorem dJ1_charAt_3b067_9 : decode cJ1_charAt_3b067 9 = .ok (.sipush 255, 3) := by decide +kernel
theorem dJ1_charAt_3b067_12 : decode cJ1_charAt_3b067 12 = .ok (.iand, 1) := by decide +kernel
theorem dJ1_charAt_3b067_13 : decode cJ1_charAt_3b067 13 = .ok (.i2c, 1) := by decide +kernel
theorem dJ1_charAt_3b067_14 : decode cJ1_charAt_3b067 14 = .ok (.ireturn, 1) := by decide +kernel
theorem dJ3_checkIndex_8e157_0 : decode cJ3_checkIndex_8e157 0 = .ok (.iload_n 0, 1) := by decide +kernel
theorem dJ3_checkIndex_8e157_1 : decode cJ3_checkIndex_8e157 1 = .ok (.ifCond .lt 8, 3) := by decide +kernel
theorem dJ3_checkIndex_8e157_4 : decode cJ3_checkIndex_8e157 4 = .ok (.iload_n 0, 1) := by decide +kernel
theorem dJ3_checkIndex_8e157_5 : decode cJ3_checkIndex_8e157 5 = .ok (.iload_n 1, 1) := by decide +kernel
theorem dJ3_checkIndex_8e157_6 : decode cJ3_checkIndex_8e157 6 = .ok (.if_icmp .lt 10, 3) := by decide +kernel
theorem dJ3_checkIndex_8e157_16 : decode cJ3_checkIndex_8e157 16 = .ok (.iload_n 0, 1) := by decide +kernel
theorem dJ3_checkIndex_8e157_17 : decode cJ3_checkIndex_8e157 17 = .ok (.ireturn, 1) := by decide +kernel
theorem hd_J0_checkIndex_df160 : yJ0_checkIndex_df160.cls ≠ "java/lang/invoke/MethodHandle" ∧ yJ0_checkIndex_df160.cls ≠ "java/lang/invoke/VarHandle" ∧ (parseMethodDescriptor yJ0_checkIndex_df160.desc).map (fun d => d.parameters.length) = some 2 := ⟨by decide +kernel, by decide +kernel, by decide +kernel⟩
theorem hd_J0_coder_7d493 : yJ0_coder_7d493.cls ≠ "java/lang/invoke/MethodHandle" ∧ yJ0_coder_7d493.cls ≠ "java/lang/invoke/VarHandle" ∧ (parseMethodDescriptor yJ0_coder_7d493.desc).map (fun d => d.parameters.length) = some 0 := ⟨by decide +kernel, by decide +kernel, by decide +kernel⟩
theorem hd_J0_isLatin1_aae02 : yJ0_isLatin1_aae02.cls ≠ "java/lang/invoke/MethodHandle" ∧ yJ0_isLatin1_aae02.cls ≠ "java/lang/invoke/VarHandle" ∧ (parseMethodDescriptor yJ0_isLatin1_aae02.desc).map (fun d => d.parameters.length) = some 0 := ⟨by decide +kernel, by decide +kernel, by decide +kernel⟩
theorem hd_J1_charAt_3b067 : yJ1_charAt_3b067.cls ≠ "java/lang/invoke/MethodHandle" ∧ yJ1_charAt_3b067.cls ≠ "java/lang/invoke/VarHandle" ∧ (parseMethodDescriptor yJ1_charAt_3b067.desc).map (fun d => d.parameters.length) = some 2 := ⟨by decide +kernel, by decide +kernel, by decide +kernel⟩
theorem hd_J3_checkIndex_8e157 : yJ3_checkIndex_8e157.cls ≠ "java/lang/invoke/MethodHandle" ∧ yJ3_checkIndex_8e157.cls ≠ "java/lang/invoke/VarHandle" ∧ (parseMethodDescriptor yJ3_checkIndex_8e157.desc).map (fun d => d.parameters.length) = some 3 := ⟨by decide +kernel, by decide +kernel, by decide +kernel⟩
set_option maxHeartbeats 4000000 in
set_option maxRecDepth 100000 in
theorem j_idx3_0_0 (l : Launch) (D : va_G) (K : Nat → ClassId) (ad : Nat → Nat) (z : TS) (o : Ok z) (x1 : Int32) (bx1 : iv 0 95 x1) : cI l yJ3_checkIndex_8e157 cJ3_checkIndex_8e157 3 .int ({ frames := 0, cells := 0, slots := 0, locals := 0 }) D K ad z [.int x1, .int 96, .null] (fun r u => u = z) := by
  refine t_enterI (by decide) (Nat.le_of_ble_eq_true rfl) rfl rfl ?_
  intro p e s m args below meth c A R Q H locs ls E hfr hlo RET G hl
  have E : mE p s m meth c cJ3_checkIndex_8e157 args 3 RJ3 D K A := E
  have hl : lv_has ls 3 [(0, .int x1), (1, .int 96), (2, .null)] := hl
  refine lv_iload_n E.1 E.2.1 dJ3_checkIndex_8e157_0 rfl (lv_at hl 0 rfl) ?_
  refine lv_if_lt (tgt := 9) E.1 E.2.1 dJ3_checkIndex_8e157_1 (by decide) (fun h => absurd h (ivnlt bx1 (iv_lit (lo := 0) (hi := 0) 0 (by decide) (by decide)) (by decide))) (fun _ => ?_)
  refine lv_iload_n E.1 E.2.1 dJ3_checkIndex_8e157_4 rfl (lv_at hl 0 rfl) ?_
  refine lv_iload_n E.1 E.2.1 dJ3_checkIndex_8e157_5 rfl (lv_at hl 1 rfl) ?_
  refine lv_icmp_lt (tgt := 16) E.1 E.2.1 dJ3_checkIndex_8e157_6 (by decide) (fun _ => ?_) (fun h => absurd (ivlt bx1 (iv_lit (lo := 96) (hi := 96) 96 (by decide) (by decide)) (by decide)) h)
  refine lv_iload_n E.1 E.2.1 dJ3_checkIndex_8e157_16 rfl (lv_at hl 0 rfl) ?_
  exact RET G rfl rfl dJ3_checkIndex_8e157_17
set_option maxHeartbeats 4000000 in
set_option maxRecDepth 100000 in
theorem j_idx3_0_1 (l : Launch) (D : va_G) (K : Nat → ClassId) (ad : Nat → Nat) (z : TS) (o : Ok z) (x1 : Int32) (bx1 : iv 0 95 x1) : cI l yJ3_checkIndex_8e157 cJ3_checkIndex_8e157 3 .int ({ frames := 0, cells := 0, slots := 0, locals := 0 }) D K ad z [.int x1, .int 96, .ref (K 121)] (fun r u => u = z) := by
  refine t_enterI (by decide) (Nat.le_of_ble_eq_true rfl) rfl rfl ?_
  intro p e s m args below meth c A R Q H locs ls E hfr hlo RET G hl
  have E : mE p s m meth c cJ3_checkIndex_8e157 args 3 RJ3 D K A := E
  have hl : lv_has ls 3 [(0, .int x1), (1, .int 96), (2, .ref (K 121))] := hl
  refine lv_iload_n E.1 E.2.1 dJ3_checkIndex_8e157_0 rfl (lv_at hl 0 rfl) ?_
  refine lv_if_lt (tgt := 9) E.1 E.2.1 dJ3_checkIndex_8e157_1 (by decide) (fun h => absurd h (ivnlt bx1 (iv_lit (lo := 0) (hi := 0) 0 (by decide) (by decide)) (by decide))) (fun _ => ?_)
  refine lv_iload_n E.1 E.2.1 dJ3_checkIndex_8e157_4 rfl (lv_at hl 0 rfl) ?_
  refine lv_iload_n E.1 E.2.1 dJ3_checkIndex_8e157_5 rfl (lv_at hl 1 rfl) ?_
  refine lv_icmp_lt (tgt := 16) E.1 E.2.1 dJ3_checkIndex_8e157_6 (by decide) (fun _ => ?_) (fun h => absurd (ivlt bx1 (iv_lit (lo := 96) (hi := 96) 96 (by decide) (by decide)) (by decide)) h)
  refine lv_iload_n E.1 E.2.1 dJ3_checkIndex_8e157_16 rfl (lv_at hl 0 rfl) ?_
  exact RET G rfl rfl dJ3_checkIndex_8e157_17
set_option maxHeartbeats 4000000 in
set_option maxRecDepth 100000 in
theorem j_idx_0 (l : Launch) (D : va_G) (K : Nat → ClassId) (ad : Nat → Nat) (z : TS) (o : Ok z) (x1 : Int32) (bx1 : iv 0 95 x1) : cV l yJ0_checkIndex_df160 cJ0_checkIndex_df160 2 ({ frames := 1, cells := 0, slots := 0, locals := 22 }) D K ad z [.int x1, .int 96] (fun u => u = z) := by
  refine t_enterV (by decide) (Nat.le_of_ble_eq_true rfl) rfl rfl ?_
  intro p e s m args below meth c A R Q H locs ls E hfr hlo RET G hl
  have E : mE p s m meth c cJ0_checkIndex_df160 args 2 RJ0 D K A := E
  have hl : lv_has ls 2 [(0, .int x1), (1, .int 96)] := hl
  refine lv_iload_n E.1 E.2.1 dJ0_checkIndex_df160_0 rfl (lv_at hl 0 rfl) ?_
  refine lv_iload_n E.1 E.2.1 dJ0_checkIndex_df160_1 rfl (lv_at hl 1 rfl) ?_
  refine t_getF E G mw_fl_J0_1053 dJ0_checkIndex_df160_2 ?_
  rcases kF_or K with hF1 | hF1
  · rw [hF1]
    refine t_si E G hl (j_idx3_0_0 l D K ad z o x1 (iv_mono bx1 (by decide) (by decide))) 3 rfl mw_code_J3_checkIndex_8e157 mw_ini_J3 mw_ml_J0_1059 mw_stat_J3_checkIndex_8e157 hd_J3_checkIndex_8e157 ⟨Nat.le_trans (by decide) hfr, Nat.le_trans (by decide) hlo⟩ rfl rfl rfl (Nat.le_of_ble_eq_true rfl) dJ0_checkIndex_df160_5 (fun r3 zz2 H locs hp4 G => ?_)
    have hz5 := hp4
    rw [hz5] at G
    refine lv_pop E.1 E.2.1 dJ0_checkIndex_df160_8 rfl ?_
    exact RET G rfl dJ0_checkIndex_df160_9
  · rw [hF1]
    refine t_si E G hl (j_idx3_0_1 l D K ad z o x1 (iv_mono bx1 (by decide) (by decide))) 3 rfl mw_code_J3_checkIndex_8e157 mw_ini_J3 mw_ml_J0_1059 mw_stat_J3_checkIndex_8e157 hd_J3_checkIndex_8e157 ⟨Nat.le_trans (by decide) hfr, Nat.le_trans (by decide) hlo⟩ rfl rfl rfl (Nat.le_of_ble_eq_true rfl) dJ0_checkIndex_df160_5 (fun r7 zz6 H locs hp8 G => ?_)
    have hz9 := hp8
    rw [hz9] at G
    refine lv_pop E.1 E.2.1 dJ0_checkIndex_df160_8 rfl ?_
    exact RET G rfl dJ0_checkIndex_df160_9
set_option maxHeartbeats 4000000 in
set_option maxRecDepth 100000 in
theorem j_coder_0 (l : Launch) (D : va_G) (K : Nat → ClassId) (ad : Nat → Nat) (z : TS) (o : Ok z) : cI l yJ0_coder_7d493 cJ0_coder_7d493 1 .byte ({ frames := 0, cells := 0, slots := 0, locals := 0 }) D K ad z [.ref (kS K 0)] (fun r u => u = z ∧ iv 0 0 r) := by
  refine t_enterI (by decide) (Nat.le_of_ble_eq_true rfl) rfl rfl ?_
  intro p e s m args below meth c A R Q H locs ls E hfr hlo RET G hl
  have E : mE p s m meth c cJ0_coder_7d493 args 1 RJ0 D K A := E
  have hl : lv_has ls 1 [(0, .ref (kS K 0))] := hl
  refine t_getC E G mw_fl_J0_38 dJ0_coder_7d493_0 ?_
  refine lv_if_eq (tgt := 13) E.1 E.2.1 dJ0_coder_7d493_3 (by decide) (fun h => absurd h (by decide)) (fun _ => ?_)
  refine lv_aload_n E.1 E.2.1 dJ0_coder_7d493_6 rfl (lv_at hl 0 rfl) ?_
  refine t_scod E G 0 (by decide) mw_fl_J0_15 dJ0_coder_7d493_7 ?_
  refine lv_goto (tgt := 14) E.1 E.2.1 dJ0_coder_7d493_10 (by decide) ?_
  exact RET G ⟨rfl, (iv_mono (iv_lit (lo := 0) (hi := 0) 0 (by decide) (by decide)) (by decide) (by decide))⟩ (by decide) dJ0_coder_7d493_14
set_option maxHeartbeats 4000000 in
set_option maxRecDepth 100000 in
theorem j_latin_0 (l : Launch) (D : va_G) (K : Nat → ClassId) (ad : Nat → Nat) (z : TS) (o : Ok z) : cI l yJ0_isLatin1_aae02 cJ0_isLatin1_aae02 1 .boolean ({ frames := 0, cells := 0, slots := 0, locals := 0 }) D K ad z [.ref (kS K 0)] (fun r u => u = z ∧ iv 1 1 r) := by
  refine t_enterI (by decide) (Nat.le_of_ble_eq_true rfl) rfl rfl ?_
  intro p e s m args below meth c A R Q H locs ls E hfr hlo RET G hl
  have E : mE p s m meth c cJ0_isLatin1_aae02 args 1 RJ0 D K A := E
  have hl : lv_has ls 1 [(0, .ref (kS K 0))] := hl
  refine t_getC E G mw_fl_J0_38 dJ0_isLatin1_aae02_0 ?_
  refine lv_if_eq (tgt := 17) E.1 E.2.1 dJ0_isLatin1_aae02_3 (by decide) (fun h => absurd h (by decide)) (fun _ => ?_)
  refine lv_aload_n E.1 E.2.1 dJ0_isLatin1_aae02_6 rfl (lv_at hl 0 rfl) ?_
  refine t_scod E G 0 (by decide) mw_fl_J0_15 dJ0_isLatin1_aae02_7 ?_
  refine lv_if_ne (tgt := 17) E.1 E.2.1 dJ0_isLatin1_aae02_10 (by decide) (fun h => absurd (by decide) h) (fun _ => ?_)
  refine lv_iconst (v := 1) E.1 E.2.1 dJ0_isLatin1_aae02_13 (by decide) ?_
  refine lv_goto (tgt := 18) E.1 E.2.1 dJ0_isLatin1_aae02_14 (by decide) ?_
  exact RET G ⟨rfl, (iv_mono (iv_lit (lo := 1) (hi := 1) 1 (by decide) (by decide)) (by decide) (by decide))⟩ (by decide) dJ0_isLatin1_aae02_18
set_option maxHeartbeats 4000000 in
set_option maxRecDepth 100000 in
theorem j_length_0 (l : Launch) (D : va_G) (K : Nat → ClassId) (ad : Nat → Nat) (z : TS) (o : Ok z) : cI l yJ0_length_8abf5 cJ0_length_8abf5 1 .int ({ frames := 1, cells := 0, slots := 0, locals := 20 }) D K ad z [.ref (kS K 0)] (fun r u => u = z ∧ iv 96 96 r) := by
  refine t_enterI (by decide) (Nat.le_of_ble_eq_true rfl) rfl rfl ?_
  intro p e s m args below meth c A R Q H locs ls E hfr hlo RET G hl
  have E : mE p s m meth c cJ0_length_8abf5 args 1 RJ0 D K A := E
  have hl : lv_has ls 1 [(0, .ref (kS K 0))] := hl
  refine lv_aload_n E.1 E.2.1 dJ0_length_8abf5_0 rfl (lv_at hl 0 rfl) ?_
  refine t_sval E G 0 (by decide) mw_fl_J0_9 dJ0_length_8abf5_1 ?_
  refine t_slen E G 0 (by decide) (v := 96) (by decide) dJ0_length_8abf5_4 ?_
  refine lv_aload_n E.1 E.2.1 dJ0_length_8abf5_5 rfl (lv_at hl 0 rfl) ?_
  refine t_svi E G hl 0 (by decide) (j_coder_0 l D K ad z o) rfl 0 rfl mw_code_J0_coder_7d493 mw_ini_J0 mw_ml_J0_335 mw_inst_J0_coder_7d493 mw_sel_J0_coder_7d493 hd_J0_coder_7d493 ⟨Nat.le_trans (by decide) hfr, Nat.le_trans (by decide) hlo⟩ rfl rfl rfl (Nat.le_of_ble_eq_true rfl) dJ0_length_8abf5_6 (fun r2 zz1 H locs hp3 G => ?_)
  obtain ⟨hz5, b4⟩ := hp3
  rw [hz5] at G
  have e6 := iv_one (y := 0) b4 (by decide)
  subst e6
  refine lv_ishr E.1 E.2.1 dJ0_length_8abf5_9 ?_
  refine m_ci 96 (by decide) ?_
  exact RET G ⟨rfl, (iv_mono (iv_lit (lo := 96) (hi := 96) 96 (by decide) (by decide)) (by decide) (by decide))⟩ rfl dJ0_length_8abf5_10
set_option maxHeartbeats 4000000 in
set_option maxRecDepth 100000 in
theorem j_idx3_1_0 (l : Launch) (D : va_G) (K : Nat → ClassId) (ad : Nat → Nat) (z : TS) (o : Ok z) (x1 : Int32) (bx1 : iv 0 10 x1) : cI l yJ3_checkIndex_8e157 cJ3_checkIndex_8e157 3 .int ({ frames := 0, cells := 0, slots := 0, locals := 0 }) D K ad z [.int x1, .int 11, .null] (fun r u => u = z) := by
  refine t_enterI (by decide) (Nat.le_of_ble_eq_true rfl) rfl rfl ?_
  intro p e s m args below meth c A R Q H locs ls E hfr hlo RET G hl
  have E : mE p s m meth c cJ3_checkIndex_8e157 args 3 RJ3 D K A := E
  have hl : lv_has ls 3 [(0, .int x1), (1, .int 11), (2, .null)] := hl
  refine lv_iload_n E.1 E.2.1 dJ3_checkIndex_8e157_0 rfl (lv_at hl 0 rfl) ?_
  refine lv_if_lt (tgt := 9) E.1 E.2.1 dJ3_checkIndex_8e157_1 (by decide) (fun h => absurd h (ivnlt bx1 (iv_lit (lo := 0) (hi := 0) 0 (by decide) (by decide)) (by decide))) (fun _ => ?_)
  refine lv_iload_n E.1 E.2.1 dJ3_checkIndex_8e157_4 rfl (lv_at hl 0 rfl) ?_
  refine lv_iload_n E.1 E.2.1 dJ3_checkIndex_8e157_5 rfl (lv_at hl 1 rfl) ?_
  refine lv_icmp_lt (tgt := 16) E.1 E.2.1 dJ3_checkIndex_8e157_6 (by decide) (fun _ => ?_) (fun h => absurd (ivlt bx1 (iv_lit (lo := 11) (hi := 11) 11 (by decide) (by decide)) (by decide)) h)
  refine lv_iload_n E.1 E.2.1 dJ3_checkIndex_8e157_16 rfl (lv_at hl 0 rfl) ?_
  exact RET G rfl rfl dJ3_checkIndex_8e157_17
set_option maxHeartbeats 4000000 in
set_option maxRecDepth 100000 in
theorem j_idx3_1_1 (l : Launch) (D : va_G) (K : Nat → ClassId) (ad : Nat → Nat) (z : TS) (o : Ok z) (x1 : Int32) (bx1 : iv 0 10 x1) : cI l yJ3_checkIndex_8e157 cJ3_checkIndex_8e157 3 .int ({ frames := 0, cells := 0, slots := 0, locals := 0 }) D K ad z [.int x1, .int 11, .ref (K 121)] (fun r u => u = z) := by
  refine t_enterI (by decide) (Nat.le_of_ble_eq_true rfl) rfl rfl ?_
  intro p e s m args below meth c A R Q H locs ls E hfr hlo RET G hl
  have E : mE p s m meth c cJ3_checkIndex_8e157 args 3 RJ3 D K A := E
  have hl : lv_has ls 3 [(0, .int x1), (1, .int 11), (2, .ref (K 121))] := hl
  refine lv_iload_n E.1 E.2.1 dJ3_checkIndex_8e157_0 rfl (lv_at hl 0 rfl) ?_
  refine lv_if_lt (tgt := 9) E.1 E.2.1 dJ3_checkIndex_8e157_1 (by decide) (fun h => absurd h (ivnlt bx1 (iv_lit (lo := 0) (hi := 0) 0 (by decide) (by decide)) (by decide))) (fun _ => ?_)
  refine lv_iload_n E.1 E.2.1 dJ3_checkIndex_8e157_4 rfl (lv_at hl 0 rfl) ?_
  refine lv_iload_n E.1 E.2.1 dJ3_checkIndex_8e157_5 rfl (lv_at hl 1 rfl) ?_
  refine lv_icmp_lt (tgt := 16) E.1 E.2.1 dJ3_checkIndex_8e157_6 (by decide) (fun _ => ?_) (fun h => absurd (ivlt bx1 (iv_lit (lo := 11) (hi := 11) 11 (by decide) (by decide)) (by decide)) h)
  refine lv_iload_n E.1 E.2.1 dJ3_checkIndex_8e157_16 rfl (lv_at hl 0 rfl) ?_
  exact RET G rfl rfl dJ3_checkIndex_8e157_17
set_option maxHeartbeats 4000000 in
set_option maxRecDepth 100000 in
theorem j_idx_1 (l : Launch) (D : va_G) (K : Nat → ClassId) (ad : Nat → Nat) (z : TS) (o : Ok z) (x1 : Int32) (bx1 : iv 0 10 x1) : cV l yJ0_checkIndex_df160 cJ0_checkIndex_df160 2 ({ frames := 1, cells := 0, slots := 0, locals := 22 }) D K ad z [.int x1, .int 11] (fun u => u = z) := by
  refine t_enterV (by decide) (Nat.le_of_ble_eq_true rfl) rfl rfl ?_
  intro p e s m args below meth c A R Q H locs ls E hfr hlo RET G hl
  have E : mE p s m meth c cJ0_checkIndex_df160 args 2 RJ0 D K A := E
  have hl : lv_has ls 2 [(0, .int x1), (1, .int 11)] := hl
  refine lv_iload_n E.1 E.2.1 dJ0_checkIndex_df160_0 rfl (lv_at hl 0 rfl) ?_
  refine lv_iload_n E.1 E.2.1 dJ0_checkIndex_df160_1 rfl (lv_at hl 1 rfl) ?_
  refine t_getF E G mw_fl_J0_1053 dJ0_checkIndex_df160_2 ?_
  rcases kF_or K with hF1 | hF1
  · rw [hF1]
    refine t_si E G hl (j_idx3_1_0 l D K ad z o x1 (iv_mono bx1 (by decide) (by decide))) 3 rfl mw_code_J3_checkIndex_8e157 mw_ini_J3 mw_ml_J0_1059 mw_stat_J3_checkIndex_8e157 hd_J3_checkIndex_8e157 ⟨Nat.le_trans (by decide) hfr, Nat.le_trans (by decide) hlo⟩ rfl rfl rfl (Nat.le_of_ble_eq_true rfl) dJ0_checkIndex_df160_5 (fun r3 zz2 H locs hp4 G => ?_)
    have hz5 := hp4
    rw [hz5] at G
    refine lv_pop E.1 E.2.1 dJ0_checkIndex_df160_8 rfl ?_
    exact RET G rfl dJ0_checkIndex_df160_9
  · rw [hF1]
    refine t_si E G hl (j_idx3_1_1 l D K ad z o x1 (iv_mono bx1 (by decide) (by decide))) 3 rfl mw_code_J3_checkIndex_8e157 mw_ini_J3 mw_ml_J0_1059 mw_stat_J3_checkIndex_8e157 hd_J3_checkIndex_8e157 ⟨Nat.le_trans (by decide) hfr, Nat.le_trans (by decide) hlo⟩ rfl rfl rfl (Nat.le_of_ble_eq_true rfl) dJ0_checkIndex_df160_5 (fun r7 zz6 H locs hp8 G => ?_)
    have hz9 := hp8
    rw [hz9] at G
    refine lv_pop E.1 E.2.1 dJ0_checkIndex_df160_8 rfl ?_
    exact RET G rfl dJ0_checkIndex_df160_9
set_option maxHeartbeats 4000000 in
set_option maxRecDepth 100000 in
theorem j_coder_1 (l : Launch) (D : va_G) (K : Nat → ClassId) (ad : Nat → Nat) (z : TS) (o : Ok z) : cI l yJ0_coder_7d493 cJ0_coder_7d493 1 .byte ({ frames := 0, cells := 0, slots := 0, locals := 0 }) D K ad z [.ref (kS K 1)] (fun r u => u = z ∧ iv 0 0 r) := by
  refine t_enterI (by decide) (Nat.le_of_ble_eq_true rfl) rfl rfl ?_
  intro p e s m args below meth c A R Q H locs ls E hfr hlo RET G hl
  have E : mE p s m meth c cJ0_coder_7d493 args 1 RJ0 D K A := E
  have hl : lv_has ls 1 [(0, .ref (kS K 1))] := hl
  refine t_getC E G mw_fl_J0_38 dJ0_coder_7d493_0 ?_
  refine lv_if_eq (tgt := 13) E.1 E.2.1 dJ0_coder_7d493_3 (by decide) (fun h => absurd h (by decide)) (fun _ => ?_)
  refine lv_aload_n E.1 E.2.1 dJ0_coder_7d493_6 rfl (lv_at hl 0 rfl) ?_
  refine t_scod E G 1 (by decide) mw_fl_J0_15 dJ0_coder_7d493_7 ?_
  refine lv_goto (tgt := 14) E.1 E.2.1 dJ0_coder_7d493_10 (by decide) ?_
  exact RET G ⟨rfl, (iv_mono (iv_lit (lo := 0) (hi := 0) 0 (by decide) (by decide)) (by decide) (by decide))⟩ (by decide) dJ0_coder_7d493_14
set_option maxHeartbeats 4000000 in
set_option maxRecDepth 100000 in
theorem j_latin_1 (l : Launch) (D : va_G) (K : Nat → ClassId) (ad : Nat → Nat) (z : TS) (o : Ok z) : cI l yJ0_isLatin1_aae02 cJ0_isLatin1_aae02 1 .boolean ({ frames := 0, cells := 0, slots := 0, locals := 0 }) D K ad z [.ref (kS K 1)] (fun r u => u = z ∧ iv 1 1 r) := by
  refine t_enterI (by decide) (Nat.le_of_ble_eq_true rfl) rfl rfl ?_
  intro p e s m args below meth c A R Q H locs ls E hfr hlo RET G hl
  have E : mE p s m meth c cJ0_isLatin1_aae02 args 1 RJ0 D K A := E
  have hl : lv_has ls 1 [(0, .ref (kS K 1))] := hl
  refine t_getC E G mw_fl_J0_38 dJ0_isLatin1_aae02_0 ?_
  refine lv_if_eq (tgt := 17) E.1 E.2.1 dJ0_isLatin1_aae02_3 (by decide) (fun h => absurd h (by decide)) (fun _ => ?_)
  refine lv_aload_n E.1 E.2.1 dJ0_isLatin1_aae02_6 rfl (lv_at hl 0 rfl) ?_
  refine t_scod E G 1 (by decide) mw_fl_J0_15 dJ0_isLatin1_aae02_7 ?_
  refine lv_if_ne (tgt := 17) E.1 E.2.1 dJ0_isLatin1_aae02_10 (by decide) (fun h => absurd (by decide) h) (fun _ => ?_)
  refine lv_iconst (v := 1) E.1 E.2.1 dJ0_isLatin1_aae02_13 (by decide) ?_
  refine lv_goto (tgt := 18) E.1 E.2.1 dJ0_isLatin1_aae02_14 (by decide) ?_
  exact RET G ⟨rfl, (iv_mono (iv_lit (lo := 1) (hi := 1) 1 (by decide) (by decide)) (by decide) (by decide))⟩ (by decide) dJ0_isLatin1_aae02_18
set_option maxHeartbeats 4000000 in
set_option maxRecDepth 100000 in
theorem j_length_1 (l : Launch) (D : va_G) (K : Nat → ClassId) (ad : Nat → Nat) (z : TS) (o : Ok z) : cI l yJ0_length_8abf5 cJ0_length_8abf5 1 .int ({ frames := 1, cells := 0, slots := 0, locals := 20 }) D K ad z [.ref (kS K 1)] (fun r u => u = z ∧ iv 11 11 r) := by
  refine t_enterI (by decide) (Nat.le_of_ble_eq_true rfl) rfl rfl ?_
  intro p e s m args below meth c A R Q H locs ls E hfr hlo RET G hl
  have E : mE p s m meth c cJ0_length_8abf5 args 1 RJ0 D K A := E
  have hl : lv_has ls 1 [(0, .ref (kS K 1))] := hl
  refine lv_aload_n E.1 E.2.1 dJ0_length_8abf5_0 rfl (lv_at hl 0 rfl) ?_
  refine t_sval E G 1 (by decide) mw_fl_J0_9 dJ0_length_8abf5_1 ?_
  refine t_slen E G 1 (by decide) (v := 11) (by decide) dJ0_length_8abf5_4 ?_
  refine lv_aload_n E.1 E.2.1 dJ0_length_8abf5_5 rfl (lv_at hl 0 rfl) ?_
  refine t_svi E G hl 1 (by decide) (j_coder_1 l D K ad z o) rfl 0 rfl mw_code_J0_coder_7d493 mw_ini_J0 mw_ml_J0_335 mw_inst_J0_coder_7d493 mw_sel_J0_coder_7d493 hd_J0_coder_7d493 ⟨Nat.le_trans (by decide) hfr, Nat.le_trans (by decide) hlo⟩ rfl rfl rfl (Nat.le_of_ble_eq_true rfl) dJ0_length_8abf5_6 (fun r2 zz1 H locs hp3 G => ?_)
  obtain ⟨hz5, b4⟩ := hp3
  rw [hz5] at G
  have e6 := iv_one (y := 0) b4 (by decide)
  subst e6
  refine lv_ishr E.1 E.2.1 dJ0_length_8abf5_9 ?_
  refine m_ci 11 (by decide) ?_
  exact RET G ⟨rfl, (iv_mono (iv_lit (lo := 11) (hi := 11) 11 (by decide) (by decide)) (by decide) (by decide))⟩ rfl dJ0_length_8abf5_10
set_option maxHeartbeats 4000000 in
set_option maxRecDepth 100000 in
theorem j_lcharAt (l : Launch) (D : va_G) (K : Nat → ClassId) (ad : Nat → Nat) (z : TS) (o : Ok z) (x1 : Int32) (bx1 : iv 0 95 x1) : cI l yJ1_charAt_3b067 cJ1_charAt_3b067 2 .char ({ frames := 2, cells := 0, slots := 0, locals := 43 }) D K ad z [.ref (kV K 0), .int x1] (fun r u => u = z ∧ iv 0 255 r ∧ (narrow .char (.int r) = .int r) ∧ (r = (sByt.getD 0 []).getD x1.toNatClampNeg 0 &&& 255)) := by
  refine t_enterI (by decide) (Nat.le_of_ble_eq_true rfl) rfl rfl ?_
  intro p e s m args below meth c A R Q H locs ls E hfr hlo RET G hl
  have E : mE p s m meth c cJ1_charAt_3b067 args 2 RJ1 D K A := E
  have hl : lv_has ls 2 [(0, .ref (kV K 0)), (1, .int x1)] := hl
  refine lv_iload_n E.1 E.2.1 dJ1_charAt_3b067_0 rfl (lv_at hl 1 rfl) ?_
  refine lv_aload_n E.1 E.2.1 dJ1_charAt_3b067_1 rfl (lv_at hl 0 rfl) ?_
  refine t_slen E G 0 (by decide) (v := 96) (by decide) dJ1_charAt_3b067_2 ?_
  refine t_sv E G hl (j_idx_0 l D K ad z o x1 (iv_mono bx1 (by decide) (by decide))) 2 rfl mw_code_J0_checkIndex_df160 mw_ini_J0 mw_ml_J1_9 mw_stat_J0_checkIndex_df160 hd_J0_checkIndex_df160 ⟨Nat.le_trans (by decide) hfr, Nat.le_trans (by decide) hlo⟩ rfl rfl rfl (Nat.le_of_ble_eq_true rfl) dJ1_charAt_3b067_3 (fun zz1 H locs hp3 G => ?_)
  have hz4 := hp3
  rw [hz4] at G
  refine lv_aload_n E.1 E.2.1 dJ1_charAt_3b067_6 rfl (lv_at hl 0 rfl) ?_
  refine lv_iload_n E.1 E.2.1 dJ1_charAt_3b067_7 rfl (lv_at hl 1 rfl) ?_
  refine t_sbyt E G 0 (by decide) (n := 96) rfl (iv_vp bx1 (by decide) (by decide)) dJ1_charAt_3b067_8 ?_
  refine lv_topi (fun v5 e6 => ?_)
  have b7 : iv 0 122 v5 := by rw [e6]; exact sb_iv 0 (by decide) _
  refine lv_sipush (v := 255) E.1 E.2.1 dJ1_charAt_3b067_9 (by decide) ?_
  refine lv_iand E.1 E.2.1 dJ1_charAt_3b067_12 ?_
  refine lv_topi (fun v8 e9 => ?_)
  have b10 : iv 0 255 v8 := by rw [e9]; exact iv_and (iv_lit (lo := 255) (hi := 255) 255 (by decide) (by decide)) (by decide)
  refine lv_i2c (v := v8) E.1 E.2.1 dJ1_charAt_3b067_13 (by rw [e9]; exact sc_c2 _) ?_
  exact RET G ⟨rfl, (iv_mono b10 (by decide) (by decide)), (by rw [e9]; exact sc_nar _), (by rw [e9, e6])⟩ (by rw [e9]; exact sc_nar _) dJ1_charAt_3b067_14
set_option maxHeartbeats 4000000 in
set_option maxRecDepth 100000 in
theorem j_charAt (l : Launch) (D : va_G) (K : Nat → ClassId) (ad : Nat → Nat) (z : TS) (o : Ok z) (x1 : Int32) (bx1 : iv 0 95 x1) : cI l yJ0_charAt_5068e cJ0_charAt_5068e 2 .char ({ frames := 3, cells := 0, slots := 0, locals := 64 }) D K ad z [.ref (kS K 0), .int x1] (fun r u => u = z ∧ iv 0 255 r ∧ (narrow .char (.int r) = .int r) ∧ (r = (sByt.getD 0 []).getD x1.toNatClampNeg 0 &&& 255)) := by
  refine t_enterI (by decide) (Nat.le_of_ble_eq_true rfl) rfl rfl ?_
  intro p e s m args below meth c A R Q H locs ls E hfr hlo RET G hl
  have E : mE p s m meth c cJ0_charAt_5068e args 2 RJ0 D K A := E
  have hl : lv_has ls 2 [(0, .ref (kS K 0)), (1, .int x1)] := hl
  refine lv_aload_n E.1 E.2.1 dJ0_charAt_5068e_0 rfl (lv_at hl 0 rfl) ?_
  refine t_svi E G hl 0 (by decide) (j_latin_0 l D K ad z o) rfl 0 rfl mw_code_J0_isLatin1_aae02 mw_ini_J0 mw_ml_J0_492 mw_inst_J0_isLatin1_aae02 mw_sel_J0_isLatin1_aae02 hd_J0_isLatin1_aae02 ⟨Nat.le_trans (by decide) hfr, Nat.le_trans (by decide) hlo⟩ rfl rfl rfl (Nat.le_of_ble_eq_true rfl) dJ0_charAt_5068e_1 (fun r2 zz1 H locs hp3 G => ?_)
  obtain ⟨hz5, b4⟩ := hp3
  rw [hz5] at G
  have e6 := iv_one (y := 1) b4 (by decide)
  subst e6
  refine lv_if_eq (tgt := 16) E.1 E.2.1 dJ0_charAt_5068e_4 (by decide) (fun h => absurd h (by decide)) (fun _ => ?_)
  refine lv_aload_n E.1 E.2.1 dJ0_charAt_5068e_7 rfl (lv_at hl 0 rfl) ?_
  refine t_sval E G 0 (by decide) mw_fl_J0_9 dJ0_charAt_5068e_8 ?_
  refine lv_iload_n E.1 E.2.1 dJ0_charAt_5068e_11 rfl (lv_at hl 1 rfl) ?_
  refine t_si E G hl (j_lcharAt l D K ad z o x1 (iv_mono bx1 (by decide) (by decide))) 2 rfl mw_code_J1_charAt_3b067 mw_ini_J1 mw_ml_J0_495 mw_stat_J1_charAt_3b067 hd_J1_charAt_3b067 ⟨Nat.le_trans (by decide) hfr, Nat.le_trans (by decide) hlo⟩ rfl rfl rfl (Nat.le_of_ble_eq_true rfl) dJ0_charAt_5068e_12 (fun r8 zz7 H locs hp9 G => ?_)
  obtain ⟨hz13, b10, h11, h12⟩ := hp9
  rw [hz13] at G
  exact RET G ⟨rfl, (iv_mono b10 (by decide) (by decide)), h11, h12⟩ h11 dJ0_charAt_5068e_15
