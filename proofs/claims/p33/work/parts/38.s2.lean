theorem mw_code_J0_indexOf_7cf53 : (Cond.code yJ0_indexOf_7cf53 cJ0_indexOf_7cf53 3 (some .int) : Cond) ∈ cw := cw_of (List.mem_append_right _ (List.mem_append_right _ (List.mem_append_right _ (List.mem_append_left _ (List.mem_of_getElem? (i := 57) rfl))))) (by decide +kernel)
theorem mw_code_J0_length_8abf5 : (Cond.code yJ0_length_8abf5 cJ0_length_8abf5 1 (some .int) : Cond) ∈ cw := cw_of (List.mem_append_right _ (List.mem_append_right _ (List.mem_append_left _ (List.mem_of_getElem? (i := 236) rfl)))) (by decide +kernel)
theorem mw_code_J1_canEncode_9a6ad : (Cond.code yJ1_canEncode_9a6ad cJ1_canEncode_9a6ad 1 (some .boolean) : Cond) ∈ cw := cw_of (List.mem_append_right _ (List.mem_append_right _ (List.mem_append_right _ (List.mem_append_left _ (List.mem_of_getElem? (i := 64) rfl))))) (by decide +kernel)
theorem mw_code_J1_indexOfChar_4cfef : (Cond.code yJ1_indexOfChar_4cfef cJ1_indexOfChar_4cfef 6 (some .int) : Cond) ∈ cw := cw_of (List.mem_append_right _ (List.mem_append_right _ (List.mem_append_right _ (List.mem_append_left _ (List.mem_of_getElem? (i := 73) rfl))))) (by decide +kernel)
theorem mw_code_J1_indexOf_4cfef : (Cond.code yJ1_indexOf_4cfef cJ1_indexOf_4cfef 4 (some .int) : Cond) ∈ cw := cw_of (List.mem_append_right _ (List.mem_append_right _ (List.mem_append_right _ (List.mem_append_left _ (List.mem_of_getElem? (i := 61) rfl))))) (by decide +kernel)
theorem mw_inst_J0_indexOf_7cf53 : (Cond.instanceMethod yJ0_indexOf_7cf53 : Cond) ∈ cw := cw_of (List.mem_append_right _ (List.mem_append_right _ (List.mem_append_right _ (List.mem_append_left _ (List.mem_of_getElem? (i := 55) (by decide +kernel)))))) (by decide +kernel)
theorem mw_inst_J0_length_8abf5 : (Cond.instanceMethod yJ0_length_8abf5 : Cond) ∈ cw := cw_of (List.mem_append_right _ (List.mem_append_right _ (List.mem_append_left _ (List.mem_of_getElem? (i := 234) (by decide +kernel))))) (by decide +kernel)
theorem mw_ml_J0_505 : (Cond.methodLink RJ0 505 yJ0_length_8abf5 : Cond) ∈ cw := cw_of (List.mem_append_right _ (List.mem_append_right _ (List.mem_append_right _ (List.mem_append_left _ (List.mem_of_getElem? (i := 58) (by decide +kernel)))))) (by decide +kernel)
theorem mw_ml_J0_633 : (Cond.methodLink RJ0 633 yJ0_indexOf_7cf53 : Cond) ∈ cw := cw_of (List.mem_append_right _ (List.mem_append_right _ (List.mem_append_right _ (List.mem_append_left _ (List.mem_of_getElem? (i := 54) (by decide +kernel)))))) (by decide +kernel)
theorem mw_ml_J0_637 : (Cond.methodLink RJ0 637 yJ1_indexOf_4cfef : Cond) ∈ cw := cw_of (List.mem_append_right _ (List.mem_append_right _ (List.mem_append_right _ (List.mem_append_left _ (List.mem_of_getElem? (i := 59) (by decide +kernel)))))) (by decide +kernel)
theorem mw_ml_J1_38 : (Cond.methodLink RJ1 38 Lib.Math.min.name : Cond) ∈ cw := cw_of (List.mem_append_right _ (List.mem_append_right _ (List.mem_append_right _ (List.mem_append_left _ (List.mem_of_getElem? (i := 68) (by decide +kernel)))))) (by decide +kernel)
theorem mw_ml_J1_88 : (Cond.methodLink RJ1 88 yJ1_canEncode_9a6ad : Cond) ∈ cw := cw_of (List.mem_append_right _ (List.mem_append_right _ (List.mem_append_right _ (List.mem_append_left _ (List.mem_of_getElem? (i := 62) (by decide +kernel)))))) (by decide +kernel)
theorem mw_ml_J1_92 : (Cond.methodLink RJ1 92 Lib.Math.max.name : Cond) ∈ cw := cw_of (List.mem_append_right _ (List.mem_append_right _ (List.mem_append_right _ (List.mem_append_left _ (List.mem_of_getElem? (i := 65) (by decide +kernel)))))) (by decide +kernel)
theorem mw_ml_J1_95 : (Cond.methodLink RJ1 95 yJ1_indexOfChar_4cfef : Cond) ∈ cw := cw_of (List.mem_append_right _ (List.mem_append_right _ (List.mem_append_right _ (List.mem_append_left _ (List.mem_of_getElem? (i := 71) (by decide +kernel)))))) (by decide +kernel)
theorem mw_sel_J0_indexOf_7cf53 : (Cond.selects RJ0 yJ0_indexOf_7cf53 yJ0_indexOf_7cf53 : Cond) ∈ cw := cw_of (List.mem_append_right _ (List.mem_append_right _ (List.mem_append_right _ (List.mem_append_left _ (List.mem_of_getElem? (i := 56) (by decide +kernel)))))) (by decide +kernel)
theorem mw_sel_J0_length_8abf5 : (Cond.selects RJ0 yJ0_length_8abf5 yJ0_length_8abf5 : Cond) ∈ cw := cw_of (List.mem_append_right _ (List.mem_append_right _ (List.mem_append_left _ (List.mem_of_getElem? (i := 235) (by decide +kernel))))) (by decide +kernel)
theorem mw_stat_J1_canEncode_9a6ad : (Cond.static yJ1_canEncode_9a6ad : Cond) ∈ cw := cw_of (List.mem_append_right _ (List.mem_append_right _ (List.mem_append_right _ (List.mem_append_left _ (List.mem_of_getElem? (i := 63) (by decide +kernel)))))) (by decide +kernel)
theorem mw_stat_J1_indexOfChar_4cfef : (Cond.static yJ1_indexOfChar_4cfef : Cond) ∈ cw := cw_of (List.mem_append_right _ (List.mem_append_right _ (List.mem_append_right _ (List.mem_append_left _ (List.mem_of_getElem? (i := 72) (by decide +kernel)))))) (by decide +kernel)
theorem mw_stat_J1_indexOf_4cfef : (Cond.static yJ1_indexOf_4cfef : Cond) ∈ cw := cw_of (List.mem_append_right _ (List.mem_append_right _ (List.mem_append_right _ (List.mem_append_left _ (List.mem_of_getElem? (i := 60) (by decide +kernel)))))) (by decide +kernel)
theorem dJ0_indexOf_0f7a4_0 : decode cJ0_indexOf_0f7a4 0 = .ok (.aload_n 0, 1) := by decide +kernel
theorem dJ0_indexOf_0f7a4_1 : decode cJ0_indexOf_0f7a4 1 = .ok (.iload_n 1, 1) := by decide +kernel
theorem dJ0_indexOf_0f7a4_2 : decode cJ0_indexOf_0f7a4 2 = .ok (.iconst 0, 1) := by decide +kernel
theorem dJ0_indexOf_0f7a4_3 : decode cJ0_indexOf_0f7a4 3 = .ok (.invokevirtual 633, 3) := by decide +kernel
theorem dJ0_indexOf_0f7a4_6 : decode cJ0_indexOf_0f7a4 6 = .ok (.ireturn, 1) := by decide +kernel
theorem dJ0_indexOf_7cf53_0 : decode cJ0_indexOf_7cf53 0 = .ok (.aload_n 0, 1) := by decide +kernel
theorem dJ0_indexOf_7cf53_1 : decode cJ0_indexOf_7cf53 1 = .ok (.invokevirtual 492, 3) := by decide +kernel
theorem dJ0_indexOf_7cf53_4 : decode cJ0_indexOf_7cf53 4 = .ok (.ifCond .eq 19, 3) := by decide +kernel
theorem dJ0_indexOf_7cf53_7 : decode cJ0_indexOf_7cf53 7 = .ok (.aload_n 0, 1) := by decide +kernel
theorem dJ0_indexOf_7cf53_8 : decode cJ0_indexOf_7cf53 8 = .ok (.getfield 9, 3) := by decide +kernel
theorem dJ0_indexOf_7cf53_11 : decode cJ0_indexOf_7cf53 11 = .ok (.iload_n 1, 1) := by decide +kernel
theorem dJ0_indexOf_7cf53_12 : decode cJ0_indexOf_7cf53 12 = .ok (.iload_n 2, 1) := by decide +kernel
theorem dJ0_indexOf_7cf53_13 : decode cJ0_indexOf_7cf53 13 = .ok (.aload_n 0, 1) := by decide +kernel
theorem dJ0_indexOf_7cf53_14 : decode cJ0_indexOf_7cf53 14 = .ok (.invokevirtual 505, 3) := by decide +kernel
theorem dJ0_indexOf_7cf53_17 : decode cJ0_indexOf_7cf53 17 = .ok (.invokestatic 637, 3) := by decide +kernel
theorem dJ0_indexOf_7cf53_20 : decode cJ0_indexOf_7cf53 20 = .ok (.goto 16, 3) := by decide +kernel
theorem dJ0_indexOf_7cf53_36 : decode cJ0_indexOf_7cf53 36 = .ok (.ireturn, 1) := by decide +kernel
theorem dJ1_canEncode_9a6ad_0 : decode cJ1_canEncode_9a6ad 0 = .ok (.iload_n 0, 1) := by decide +kernel
theorem dJ1_canEncode_9a6ad_1 : decode cJ1_canEncode_9a6ad 1 = .ok (.ifCond .lt 14, 3) := by decide +kernel
theorem dJ1_canEncode_9a6ad_4 : decode cJ1_canEncode_9a6ad 4 = .ok (.iload_n 0, 1) := by decide +kernel
theorem dJ1_canEncode_9a6ad_5 : decode cJ1_canEncode_9a6ad 5 = .ok (.sipush 255, 3) := by decide +kernel
theorem dJ1_canEncode_9a6ad_8 : decode cJ1_canEncode_9a6ad 8 = .ok (.if_icmp .gt 7, 3) := by decide +kernel
theorem dJ1_canEncode_9a6ad_11 : decode cJ1_canEncode_9a6ad 11 = .ok (.iconst 1, 1) := by decide +kernel
theorem dJ1_canEncode_9a6ad_12 : decode cJ1_canEncode_9a6ad 12 = .ok (.goto 4, 3) := by decide +kernel
theorem dJ1_canEncode_9a6ad_16 : decode cJ1_canEncode_9a6ad 16 = .ok (.ireturn, 1) := by decide +kernel
theorem dJ1_indexOfChar_4cfef_0 : decode cJ1_indexOfChar_4cfef 0 = .ok (.iload_n 1, 1) := by decide +kernel
theorem dJ1_indexOfChar_4cfef_1 : decode cJ1_indexOfChar_4cfef 1 = .ok (.i2b, 1) := by decide +kernel
theorem dJ1_indexOfChar_4cfef_2 : decode cJ1_indexOfChar_4cfef 2 = .ok (.istore 4, 2) := by decide +kernel
theorem dJ1_indexOfChar_4cfef_4 : decode cJ1_indexOfChar_4cfef 4 = .ok (.iload_n 2, 1) := by decide +kernel
theorem dJ1_indexOfChar_4cfef_5 : decode cJ1_indexOfChar_4cfef 5 = .ok (.istore 5, 2) := by decide +kernel
theorem dJ1_indexOfChar_4cfef_7 : decode cJ1_indexOfChar_4cfef 7 = .ok (.iload 5, 2) := by decide +kernel
theorem dJ1_indexOfChar_4cfef_9 : decode cJ1_indexOfChar_4cfef 9 = .ok (.iload_n 3, 1) := by decide +kernel
theorem dJ1_indexOfChar_4cfef_10 : decode cJ1_indexOfChar_4cfef 10 = .ok (.if_icmp .ge 21, 3) := by decide +kernel
theorem dJ1_indexOfChar_4cfef_13 : decode cJ1_indexOfChar_4cfef 13 = .ok (.aload_n 0, 1) := by decide +kernel
theorem dJ1_indexOfChar_4cfef_14 : decode cJ1_indexOfChar_4cfef 14 = .ok (.iload 5, 2) := by decide +kernel
theorem dJ1_indexOfChar_4cfef_16 : decode cJ1_indexOfChar_4cfef 16 = .ok (.baload, 1) := by decide +kernel
theorem dJ1_indexOfChar_4cfef_17 : decode cJ1_indexOfChar_4cfef 17 = .ok (.iload 4, 2) := by decide +kernel
theorem dJ1_indexOfChar_4cfef_19 : decode cJ1_indexOfChar_4cfef 19 = .ok (.if_icmp .ne 6, 3) := by decide +kernel
theorem dJ1_indexOfChar_4cfef_22 : decode cJ1_indexOfChar_4cfef 22 = .ok (.iload 5, 2) := by decide +kernel
theorem dJ1_indexOfChar_4cfef_24 : decode cJ1_indexOfChar_4cfef 24 = .ok (.ireturn, 1) := by decide +kernel
theorem dJ1_indexOfChar_4cfef_25 : decode cJ1_indexOfChar_4cfef 25 = .ok (.iinc 5 1, 3) := by decide +kernel
theorem dJ1_indexOfChar_4cfef_28 : decode cJ1_indexOfChar_4cfef 28 = .ok (.goto (-21), 3) := by decide +kernel
theorem dJ1_indexOfChar_4cfef_31 : decode cJ1_indexOfChar_4cfef 31 = .ok (.iconst (-1), 1) := by decide +kernel
theorem dJ1_indexOfChar_4cfef_32 : decode cJ1_indexOfChar_4cfef 32 = .ok (.ireturn, 1) := by decide +kernel
theorem dJ1_indexOf_4cfef_0 : decode cJ1_indexOf_4cfef 0 = .ok (.iload_n 1, 1) := by decide +kernel
theorem dJ1_indexOf_4cfef_1 : decode cJ1_indexOf_4cfef 1 = .ok (.invokestatic 88, 3) := by decide +kernel
theorem dJ1_indexOf_4cfef_4 : decode cJ1_indexOf_4cfef 4 = .ok (.ifCond .ne 5, 3) := by decide +kernel
theorem dJ1_indexOf_4cfef_9 : decode cJ1_indexOf_4cfef 9 = .ok (.iload_n 2, 1) := by decide +kernel
theorem dJ1_indexOf_4cfef_10 : decode cJ1_indexOf_4cfef 10 = .ok (.iconst 0, 1) := by decide +kernel
theorem dJ1_indexOf_4cfef_11 : decode cJ1_indexOf_4cfef 11 = .ok (.invokestatic 92, 3) := by decide +kernel
theorem dJ1_indexOf_4cfef_14 : decode cJ1_indexOf_4cfef 14 = .ok (.istore_n 2, 1) := by decide +kernel
theorem dJ1_indexOf_4cfef_15 : decode cJ1_indexOf_4cfef 15 = .ok (.iload_n 3, 1) := by decide +kernel
theorem dJ1_indexOf_4cfef_16 : decode cJ1_indexOf_4cfef 16 = .ok (.aload_n 0, 1) := by decide +kernel
theorem dJ1_indexOf_4cfef_17 : decode cJ1_indexOf_4cfef 17 = .ok (.arraylength, 1) := by decide +kernel
theorem dJ1_indexOf_4cfef_18 : decode cJ1_indexOf_4cfef 18 = .ok (.invokestatic 38, 3) := by decide +kernel
theorem dJ1_indexOf_4cfef_21 : decode cJ1_indexOf_4cfef 21 = .ok (.istore_n 3, 1) := by decide +kernel
theorem dJ1_indexOf_4cfef_22 : decode cJ1_indexOf_4cfef 22 = .ok (.iload_n 2, 1) := by decide +kernel
theorem dJ1_indexOf_4cfef_23 : decode cJ1_indexOf_4cfef 23 = .ok (.iload_n 3, 1) := by decide +kernel
theorem dJ1_indexOf_4cfef_24 : decode cJ1_indexOf_4cfef 24 = .ok (.if_icmp .lt 5, 3) := by decide +kernel
theorem dJ1_indexOf_4cfef_29 : decode cJ1_indexOf_4cfef 29 = .ok (.aload_n 0, 1) := by decide +kernel
theorem dJ1_indexOf_4cfef_30 : decode cJ1_indexOf_4cfef 30 = .ok (.iload_n 1, 1) := by decide +kernel
theorem dJ1_indexOf_4cfef_31 : decode cJ1_indexOf_4cfef 31 = .ok (.iload_n 2, 1) := by decide +kernel
theorem dJ1_indexOf_4cfef_32 : decode cJ1_indexOf_4cfef 32 = .ok (.iload_n 3, 1) := by decide +kernel
theorem dJ1_indexOf_4cfef_33 : decode cJ1_indexOf_4cfef 33 = .ok (.invokestatic 95, 3) := by decide +kernel
theorem dJ1_indexOf_4cfef_36 : decode cJ1_indexOf_4cfef 36 = .ok (.ireturn, 1) := by decide +kernel
theorem hd_J0_indexOf_7cf53 : yJ0_indexOf_7cf53.cls ≠ "java/lang/invoke/MethodHandle" ∧ yJ0_indexOf_7cf53.cls ≠ "java/lang/invoke/VarHandle" ∧ (parseMethodDescriptor yJ0_indexOf_7cf53.desc).map (fun d => d.parameters.length) = some 2 := ⟨by decide +kernel, by decide +kernel, by decide +kernel⟩
theorem hd_J0_length_8abf5 : yJ0_length_8abf5.cls ≠ "java/lang/invoke/MethodHandle" ∧ yJ0_length_8abf5.cls ≠ "java/lang/invoke/VarHandle" ∧ (parseMethodDescriptor yJ0_length_8abf5.desc).map (fun d => d.parameters.length) = some 0 := ⟨by decide +kernel, by decide +kernel, by decide +kernel⟩
theorem hd_J1_canEncode_9a6ad : yJ1_canEncode_9a6ad.cls ≠ "java/lang/invoke/MethodHandle" ∧ yJ1_canEncode_9a6ad.cls ≠ "java/lang/invoke/VarHandle" ∧ (parseMethodDescriptor yJ1_canEncode_9a6ad.desc).map (fun d => d.parameters.length) = some 1 := ⟨by decide +kernel, by decide +kernel, by decide +kernel⟩
theorem hd_J1_indexOfChar_4cfef : yJ1_indexOfChar_4cfef.cls ≠ "java/lang/invoke/MethodHandle" ∧ yJ1_indexOfChar_4cfef.cls ≠ "java/lang/invoke/VarHandle" ∧ (parseMethodDescriptor yJ1_indexOfChar_4cfef.desc).map (fun d => d.parameters.length) = some 4 := ⟨by decide +kernel, by decide +kernel, by decide +kernel⟩
theorem hd_J1_indexOf_4cfef : yJ1_indexOf_4cfef.cls ≠ "java/lang/invoke/MethodHandle" ∧ yJ1_indexOf_4cfef.cls ≠ "java/lang/invoke/VarHandle" ∧ (parseMethodDescriptor yJ1_indexOf_4cfef.desc).map (fun d => d.parameters.length) = some 4 := ⟨by decide +kernel, by decide +kernel, by decide +kernel⟩
set_option maxHeartbeats 4000000 in
set_option maxRecDepth 100000 in
theorem j_enc (l : Launch) (D : va_G) (K : Nat → ClassId) (ad : Nat → Nat) (z : TS) (o : Ok z) (x1 : Int32) (bx1 : iv 0 255 x1) : cI l yJ1_canEncode_9a6ad cJ1_canEncode_9a6ad 1 .boolean ({ frames := 0, cells := 0, slots := 0, locals := 0 }) D K ad z [.int x1] (fun r u => u = z ∧ iv 1 1 r) := by
  refine t_enterI (by decide) (Nat.le_of_ble_eq_true rfl) rfl rfl ?_
  intro p e s m args below meth c A R Q H locs ls E hfr hlo RET G hl
  have E : mE p s m meth c cJ1_canEncode_9a6ad args 1 RJ1 D K A := E
  have hl : lv_has ls 1 [(0, .int x1)] := hl
  refine lv_iload_n E.1 E.2.1 dJ1_canEncode_9a6ad_0 rfl (lv_at hl 0 rfl) ?_
  refine lv_if_lt (tgt := 15) E.1 E.2.1 dJ1_canEncode_9a6ad_1 (by decide) (fun h => absurd h (ivnlt bx1 (iv_lit (lo := 0) (hi := 0) 0 (by decide) (by decide)) (by decide))) (fun _ => ?_)
  refine lv_iload_n E.1 E.2.1 dJ1_canEncode_9a6ad_4 rfl (lv_at hl 0 rfl) ?_
  refine lv_sipush (v := 255) E.1 E.2.1 dJ1_canEncode_9a6ad_5 (by decide) ?_
  refine lv_icmp_gt (tgt := 15) E.1 E.2.1 dJ1_canEncode_9a6ad_8 (by decide) (fun h => absurd h (ivnlt (iv_lit (lo := 255) (hi := 255) 255 (by decide) (by decide)) bx1 (by decide))) (fun _ => ?_)
  refine lv_iconst (v := 1) E.1 E.2.1 dJ1_canEncode_9a6ad_11 (by decide) ?_
  refine lv_goto (tgt := 16) E.1 E.2.1 dJ1_canEncode_9a6ad_12 (by decide) ?_
  exact RET G ⟨rfl, (iv_mono (iv_lit (lo := 1) (hi := 1) 1 (by decide) (by decide)) (by decide) (by decide))⟩ (by decide) dJ1_canEncode_9a6ad_16
set_option maxHeartbeats 4000000 in
set_option maxRecDepth 100000 in
theorem j_ioc (l : Launch) (D : va_G) (K : Nat → ClassId) (ad : Nat → Nat) (z : TS) (o : Ok z) (x1 : Int32) (bx1 : iv 0 255 x1) (x2 : Int32) (bx2 : iv 0 0 x2) (x3 : Int32) (bx3 : iv 11 11 x3) : cI l yJ1_indexOfChar_4cfef cJ1_indexOfChar_4cfef 6 .int ({ frames := 0, cells := 0, slots := 0, locals := 0 }) D K ad z [.ref (kV K 1), .int x1, .int x2, .int x3] (fun r u => u = z ∧ iv (-1) 10 r) := by
  refine t_enterI (by decide) (Nat.le_of_ble_eq_true rfl) rfl rfl ?_
  intro p e s m args below meth c A R Q H locs ls E hfr hlo RET G hl
  have E : mE p s m meth c cJ1_indexOfChar_4cfef args 6 RJ1 D K A := E
  have hl : lv_has ls 6 [(0, .ref (kV K 1)), (1, .int x1), (2, .int x2), (3, .int x3)] := hl
  refine lv_iload_n E.1 E.2.1 dJ1_indexOfChar_4cfef_0 rfl (lv_at hl 1 rfl) ?_
  refine lv_i2b E.1 E.2.1 dJ1_indexOfChar_4cfef_1 rfl ?_
  refine lv_istore (lv' := [(4, .int (x1.toInt8.toInt32)), (0, .ref (kV K 1)), (1, .int x1), (2, .int x2), (3, .int x3)]) E.1 E.2.1 dJ1_indexOfChar_4cfef_2 hl (by decide) rfl (fun ls hl => ?_)
  refine lv_iload_n E.1 E.2.1 dJ1_indexOfChar_4cfef_4 rfl (lv_at hl 3 rfl) ?_
  refine lv_istore (lv' := [(5, .int x2), (4, .int (x1.toInt8.toInt32)), (0, .ref (kV K 1)), (1, .int x1), (2, .int x2), (3, .int x3)]) E.1 E.2.1 dJ1_indexOfChar_4cfef_5 hl (by decide) rfl (fun ls hl => ?_)
  have LOOP7 : ∀ n : Nat, ∀ (y1 : Int32) (H : Heap) (locs : List Loc) (ls : Array Slot), mG D A s H locs (wd K ad z) → iv 0 11 y1 → 11 < y1.toInt + (n : Int) → lv_has ls 6 [(5, .int y1), (4, .int (x1.toInt8.toInt32)), (0, .ref (kV K 1)), (1, .int x1), (2, .int x2), (3, .int x3)] → W p l e R s m args below meth c H locs 0 0 Q (F0 m 7 ls []) := by
    intro n
    induction n with
    | zero =>
      intro y1 H locs ls G b6 m5 hl
      exact absurd m5 (by have := b6.1; have := b6.2; omega)
    | succ n ih7 =>
      intro y1 H locs ls G b6 m5 hl
      refine lv_iload E.1 E.2.1 dJ1_indexOfChar_4cfef_7 (lv_at hl 0 rfl) ?_
      refine lv_iload_n E.1 E.2.1 dJ1_indexOfChar_4cfef_9 rfl (lv_at hl 5 rfl) ?_
      refine lv_icmp_ge (tgt := 31) E.1 E.2.1 dJ1_indexOfChar_4cfef_10 (by decide) (fun c7 => ?_) (fun c7 => ?_)
      · skip
        have b8 : iv 11 11 y1 := le_r c7 bx3 b6 (by decide)
        refine lv_iconst (v := (-1)) E.1 E.2.1 dJ1_indexOfChar_4cfef_31 (by decide) ?_
        exact RET G ⟨rfl, (iv_mono (iv_lit (lo := (-1)) (hi := (-1)) (-1) (by decide) (by decide)) (by decide) (by decide))⟩ rfl dJ1_indexOfChar_4cfef_32
      · skip
        have b9 : iv 0 10 y1 := lt_l (Int32.not_le.mp c7) b6 bx3 (by decide)
        refine lv_aload_n E.1 E.2.1 dJ1_indexOfChar_4cfef_13 rfl (lv_at hl 2 rfl) ?_
        refine lv_iload E.1 E.2.1 dJ1_indexOfChar_4cfef_14 (lv_at hl 0 rfl) ?_
        refine t_sbyt E G 1 (by decide) (n := 11) rfl (iv_vp b9 (by decide) (by decide)) dJ1_indexOfChar_4cfef_16 ?_
        refine lv_topi (fun v10 e11 => ?_)
        have b12 : iv 0 122 v10 := by rw [e11]; exact sb_iv 1 (by decide) _
        refine lv_iload E.1 E.2.1 dJ1_indexOfChar_4cfef_17 (lv_at hl 1 rfl) ?_
        refine lv_icmp_ne (tgt := 25) E.1 E.2.1 dJ1_indexOfChar_4cfef_19 (by decide) (fun c13 => ?_) (fun c13 => ?_)
        · skip
          obtain ⟨v14, e15⟩ : ∃ w : Int32, w = y1 + (1 : Int32) := ⟨_, rfl⟩
          refine lv_iinc (v := v14) (lv' := [(5, .int v14), (4, .int (x1.toInt8.toInt32)), (0, .ref (kV K 1)), (1, .int x1), (2, .int x2), (3, .int x3)]) E.1 E.2.1 dJ1_indexOfChar_4cfef_25 hl (k := 0) rfl (by rw [e15]; rfl) (by decide) rfl (fun ls hl => ?_)
          have b16 : iv 1 11 v14 := by rw [e15]; exact iv_add b9 (iv_lit (lo := 1) (hi := 1) 1 (by decide) (by decide)) (by decide) (by decide) (by decide) (by decide)
          have t17 : v14.toInt = y1.toInt + 1 := by rw [e15]; exact ti_addc 1 (by decide) b9 (by decide) (by decide)
          refine lv_goto (tgt := 7) E.1 E.2.1 dJ1_indexOfChar_4cfef_28 (by decide) ?_
          exact ih7 v14 H locs ls G (iv_mono b16 (by decide) (by decide)) (by have := t17; have := m5; omega) (lv_sub hl [0, 1, 2, 3, 4, 5] rfl)
        · skip
          refine lv_iload E.1 E.2.1 dJ1_indexOfChar_4cfef_22 (lv_at hl 0 rfl) ?_
          exact RET G ⟨rfl, (iv_mono b9 (by decide) (by decide))⟩ rfl dJ1_indexOfChar_4cfef_24
  exact LOOP7 12 x2 H locs ls G (iv_mono bx2 (by decide) (by decide)) (by have := bx2.1; omega) (lv_sub hl [0, 1, 2, 3, 4, 5] rfl)
set_option maxHeartbeats 4000000 in
set_option maxRecDepth 100000 in
theorem j_lio (l : Launch) (D : va_G) (K : Nat → ClassId) (ad : Nat → Nat) (z : TS) (o : Ok z) (x1 : Int32) (bx1 : iv 0 255 x1) : cI l yJ1_indexOf_4cfef cJ1_indexOf_4cfef 4 .int ({ frames := 1, cells := 0, slots := 0, locals := 25 }) D K ad z [.ref (kV K 1), .int x1, .int 0, .int 11] (fun r u => u = z ∧ iv (-1) 10 r) := by
  refine t_enterI (by decide) (Nat.le_of_ble_eq_true rfl) rfl rfl ?_
  intro p e s m args below meth c A R Q H locs ls E hfr hlo RET G hl
  have E : mE p s m meth c cJ1_indexOf_4cfef args 4 RJ1 D K A := E
  have hl : lv_has ls 4 [(0, .ref (kV K 1)), (1, .int x1), (2, .int 0), (3, .int 11)] := hl
  refine lv_iload_n E.1 E.2.1 dJ1_indexOf_4cfef_0 rfl (lv_at hl 1 rfl) ?_
  refine t_si E G hl (j_enc l D K ad z o x1 (iv_mono bx1 (by decide) (by decide))) 1 rfl mw_code_J1_canEncode_9a6ad mw_ini_J1 mw_ml_J1_88 mw_stat_J1_canEncode_9a6ad hd_J1_canEncode_9a6ad ⟨Nat.le_trans (by decide) hfr, Nat.le_trans (by decide) hlo⟩ rfl rfl rfl (Nat.le_of_ble_eq_true rfl) dJ1_indexOf_4cfef_1 (fun r2 zz1 H locs hp3 G => ?_)
  obtain ⟨hz5, b4⟩ := hp3
  rw [hz5] at G
  have e6 := iv_one (y := 1) b4 (by decide)
  subst e6
  refine lv_if_ne (tgt := 9) E.1 E.2.1 dJ1_indexOf_4cfef_4 (by decide) (fun _ => ?_) (fun h => absurd h (by decide))
  refine lv_iload_n E.1 E.2.1 dJ1_indexOf_4cfef_9 rfl (lv_at hl 2 rfl) ?_
  refine lv_iconst (v := 0) E.1 E.2.1 dJ1_indexOf_4cfef_10 (by decide) ?_
  refine va_mmax E.1 E.2.1 (E.2.2.1.trans hl.1.symm) E.2.2.2.1 (E.2.2.2.2.1 _ mw_ml_J1_92) (E.2.2.2.2.1 _ mw_stat_max) (E.2.2.2.2.1 _ mw_ini_Math) (E.2.2.2.2.1 _ mw_code_max) (Nat.le_trans (by decide) hfr) (Nat.le_trans (Nat.le_of_ble_eq_true rfl) hlo) (Nat.zero_le _) (Nat.zero_le _) dJ1_indexOf_4cfef_11 ?_
  refine lv_topi (fun v7 e8 => ?_)
  have b9 : iv 0 0 v7 := by rw [e8]; exact iv_max (iv_lit (lo := 0) (hi := 0) 0 (by decide) (by decide)) (iv_lit (lo := 0) (hi := 0) 0 (by decide) (by decide)) (by decide) (by decide)
  refine lv_istore_n (lv' := [(2, .int v7), (0, .ref (kV K 1)), (1, .int x1), (3, .int 11)]) E.1 E.2.1 dJ1_indexOf_4cfef_14 rfl hl (by decide) rfl (fun ls hl => ?_)
  refine lv_iload_n E.1 E.2.1 dJ1_indexOf_4cfef_15 rfl (lv_at hl 3 rfl) ?_
  refine lv_aload_n E.1 E.2.1 dJ1_indexOf_4cfef_16 rfl (lv_at hl 1 rfl) ?_
  refine t_slen E G 1 (by decide) (v := 11) (by decide) dJ1_indexOf_4cfef_17 ?_
  refine va_mmin E.1 E.2.1 (E.2.2.1.trans hl.1.symm) E.2.2.2.1 (E.2.2.2.2.1 _ mw_ml_J1_38) (E.2.2.2.2.1 _ mw_stat_min) (E.2.2.2.2.1 _ mw_ini_Math) (E.2.2.2.2.1 _ mw_code_min) (Nat.le_trans (by decide) hfr) (Nat.le_trans (Nat.le_of_ble_eq_true rfl) hlo) (Nat.zero_le _) (Nat.zero_le _) dJ1_indexOf_4cfef_18 ?_
  refine lv_topi (fun v10 e11 => ?_)
  have b12 : iv 11 11 v10 := by rw [e11]; exact iv_min (iv_lit (lo := 11) (hi := 11) 11 (by decide) (by decide)) (iv_lit (lo := 11) (hi := 11) 11 (by decide) (by decide)) (by decide) (by decide)
  refine lv_istore_n (lv' := [(3, .int v10), (2, .int v7), (0, .ref (kV K 1)), (1, .int x1)]) E.1 E.2.1 dJ1_indexOf_4cfef_21 rfl hl (by decide) rfl (fun ls hl => ?_)
  refine lv_iload_n E.1 E.2.1 dJ1_indexOf_4cfef_22 rfl (lv_at hl 1 rfl) ?_
  refine lv_iload_n E.1 E.2.1 dJ1_indexOf_4cfef_23 rfl (lv_at hl 0 rfl) ?_
  refine lv_icmp_lt (tgt := 29) E.1 E.2.1 dJ1_indexOf_4cfef_24 (by decide) (fun _ => ?_) (fun h => absurd (ivlt b9 b12 (by decide)) h)
  refine lv_aload_n E.1 E.2.1 dJ1_indexOf_4cfef_29 rfl (lv_at hl 2 rfl) ?_
  refine lv_iload_n E.1 E.2.1 dJ1_indexOf_4cfef_30 rfl (lv_at hl 3 rfl) ?_
  refine lv_iload_n E.1 E.2.1 dJ1_indexOf_4cfef_31 rfl (lv_at hl 1 rfl) ?_
  refine lv_iload_n E.1 E.2.1 dJ1_indexOf_4cfef_32 rfl (lv_at hl 0 rfl) ?_
  refine t_si E G hl (j_ioc l D K ad z o x1 (iv_mono bx1 (by decide) (by decide)) v7 (iv_mono b9 (by decide) (by decide)) v10 (iv_mono b12 (by decide) (by decide))) 4 rfl mw_code_J1_indexOfChar_4cfef mw_ini_J1 mw_ml_J1_95 mw_stat_J1_indexOfChar_4cfef hd_J1_indexOfChar_4cfef ⟨Nat.le_trans (by decide) hfr, Nat.le_trans (by decide) hlo⟩ rfl rfl rfl (Nat.le_of_ble_eq_true rfl) dJ1_indexOf_4cfef_33 (fun r14 zz13 H locs hp15 G => ?_)
  obtain ⟨hz17, b16⟩ := hp15
  rw [hz17] at G
  exact RET G ⟨rfl, (iv_mono b16 (by decide) (by decide))⟩ rfl dJ1_indexOf_4cfef_36
set_option maxHeartbeats 4000000 in
set_option maxRecDepth 100000 in
theorem j_io2 (l : Launch) (D : va_G) (K : Nat → ClassId) (ad : Nat → Nat) (z : TS) (o : Ok z) (x1 : Int32) (bx1 : iv 0 255 x1) : cI l yJ0_indexOf_7cf53 cJ0_indexOf_7cf53 3 .int ({ frames := 2, cells := 0, slots := 0, locals := 48 }) D K ad z [.ref (kS K 1), .int x1, .int 0] (fun r u => u = z ∧ iv (-1) 10 r) := by
  refine t_enterI (by decide) (Nat.le_of_ble_eq_true rfl) rfl rfl ?_
  intro p e s m args below meth c A R Q H locs ls E hfr hlo RET G hl
  have E : mE p s m meth c cJ0_indexOf_7cf53 args 3 RJ0 D K A := E
  have hl : lv_has ls 3 [(0, .ref (kS K 1)), (1, .int x1), (2, .int 0)] := hl
  refine lv_aload_n E.1 E.2.1 dJ0_indexOf_7cf53_0 rfl (lv_at hl 0 rfl) ?_
  refine t_svi E G hl 1 (by decide) (j_latin_1 l D K ad z o) rfl 0 rfl mw_code_J0_isLatin1_aae02 mw_ini_J0 mw_ml_J0_492 mw_inst_J0_isLatin1_aae02 mw_sel_J0_isLatin1_aae02 hd_J0_isLatin1_aae02 ⟨Nat.le_trans (by decide) hfr, Nat.le_trans (by decide) hlo⟩ rfl rfl rfl (Nat.le_of_ble_eq_true rfl) dJ0_indexOf_7cf53_1 (fun r2 zz1 H locs hp3 G => ?_)
  obtain ⟨hz5, b4⟩ := hp3
  rw [hz5] at G
  have e6 := iv_one (y := 1) b4 (by decide)
  subst e6
  refine lv_if_eq (tgt := 23) E.1 E.2.1 dJ0_indexOf_7cf53_4 (by decide) (fun h => absurd h (by decide)) (fun _ => ?_)
  refine lv_aload_n E.1 E.2.1 dJ0_indexOf_7cf53_7 rfl (lv_at hl 0 rfl) ?_
  refine t_sval E G 1 (by decide) mw_fl_J0_9 dJ0_indexOf_7cf53_8 ?_
  refine lv_iload_n E.1 E.2.1 dJ0_indexOf_7cf53_11 rfl (lv_at hl 1 rfl) ?_
  refine lv_iload_n E.1 E.2.1 dJ0_indexOf_7cf53_12 rfl (lv_at hl 2 rfl) ?_
  refine lv_aload_n E.1 E.2.1 dJ0_indexOf_7cf53_13 rfl (lv_at hl 0 rfl) ?_
  refine t_svi E G hl 1 (by decide) (j_length_1 l D K ad z o) rfl 0 rfl mw_code_J0_length_8abf5 mw_ini_J0 mw_ml_J0_505 mw_inst_J0_length_8abf5 mw_sel_J0_length_8abf5 hd_J0_length_8abf5 ⟨Nat.le_trans (by decide) hfr, Nat.le_trans (by decide) hlo⟩ rfl rfl rfl (Nat.le_of_ble_eq_true rfl) dJ0_indexOf_7cf53_14 (fun r8 zz7 H locs hp9 G => ?_)
  obtain ⟨hz11, b10⟩ := hp9
  rw [hz11] at G
  have e12 := iv_one (y := 11) b10 (by decide)
  subst e12
  refine t_si E G hl (j_lio l D K ad z o x1 (iv_mono bx1 (by decide) (by decide))) 4 rfl mw_code_J1_indexOf_4cfef mw_ini_J1 mw_ml_J0_637 mw_stat_J1_indexOf_4cfef hd_J1_indexOf_4cfef ⟨Nat.le_trans (by decide) hfr, Nat.le_trans (by decide) hlo⟩ rfl rfl rfl (Nat.le_of_ble_eq_true rfl) dJ0_indexOf_7cf53_17 (fun r14 zz13 H locs hp15 G => ?_)
  obtain ⟨hz17, b16⟩ := hp15
  rw [hz17] at G
  refine lv_goto (tgt := 36) E.1 E.2.1 dJ0_indexOf_7cf53_20 (by decide) ?_
  exact RET G ⟨rfl, (iv_mono b16 (by decide) (by decide))⟩ rfl dJ0_indexOf_7cf53_36
set_option maxHeartbeats 4000000 in
set_option maxRecDepth 100000 in
theorem j_io1 (l : Launch) (D : va_G) (K : Nat → ClassId) (ad : Nat → Nat) (z : TS) (o : Ok z) (x1 : Int32) (bx1 : iv 0 255 x1) : cI l yJ0_indexOf_0f7a4 cJ0_indexOf_0f7a4 2 .int ({ frames := 3, cells := 0, slots := 0, locals := 70 }) D K ad z [.ref (kS K 1), .int x1] (fun r u => u = z ∧ iv (-1) 10 r) := by
  refine t_enterI (by decide) (Nat.le_of_ble_eq_true rfl) rfl rfl ?_
  intro p e s m args below meth c A R Q H locs ls E hfr hlo RET G hl
  have E : mE p s m meth c cJ0_indexOf_0f7a4 args 2 RJ0 D K A := E
  have hl : lv_has ls 2 [(0, .ref (kS K 1)), (1, .int x1)] := hl
  refine lv_aload_n E.1 E.2.1 dJ0_indexOf_0f7a4_0 rfl (lv_at hl 0 rfl) ?_
  refine lv_iload_n E.1 E.2.1 dJ0_indexOf_0f7a4_1 rfl (lv_at hl 1 rfl) ?_
  refine lv_iconst (v := 0) E.1 E.2.1 dJ0_indexOf_0f7a4_2 (by decide) ?_
  refine t_svi E G hl 1 (by decide) (j_io2 l D K ad z o x1 (iv_mono bx1 (by decide) (by decide))) rfl 2 rfl mw_code_J0_indexOf_7cf53 mw_ini_J0 mw_ml_J0_633 mw_inst_J0_indexOf_7cf53 mw_sel_J0_indexOf_7cf53 hd_J0_indexOf_7cf53 ⟨Nat.le_trans (by decide) hfr, Nat.le_trans (by decide) hlo⟩ rfl rfl rfl (Nat.le_of_ble_eq_true rfl) dJ0_indexOf_0f7a4_3 (fun r2 zz1 H locs hp3 G => ?_)
  obtain ⟨hz5, b4⟩ := hp3
  rw [hz5] at G
  exact RET G ⟨rfl, (iv_mono b4 (by decide) (by decide))⟩ rfl dJ0_indexOf_0f7a4_6
