theorem mw_cI_J6_265 : (Cond.constant RJ6 265 (1431655765) : Cond) ∈ cw := cw_of (List.mem_append_right _ (List.mem_append_right _ (List.mem_append_right _ (List.mem_append_right _ (List.mem_append_left _ (List.mem_of_getElem? (i := 210) (by decide +kernel))))))) (by decide +kernel)
theorem mw_cI_J6_266 : (Cond.constant RJ6 266 (858993459) : Cond) ∈ cw := cw_of (List.mem_append_right _ (List.mem_append_right _ (List.mem_append_right _ (List.mem_append_right _ (List.mem_append_left _ (List.mem_of_getElem? (i := 211) (by decide +kernel))))))) (by decide +kernel)
theorem mw_cI_J6_267 : (Cond.constant RJ6 267 (252645135) : Cond) ∈ cw := cw_of (List.mem_append_right _ (List.mem_append_right _ (List.mem_append_right _ (List.mem_append_right _ (List.mem_append_left _ (List.mem_of_getElem? (i := 212) (by decide +kernel))))))) (by decide +kernel)
theorem dJ6_bitCount_0f7a4_0 : decode cJ6_bitCount_0f7a4 0 = .ok (.iload_n 0, 1) := by decide +kernel
theorem dJ6_bitCount_0f7a4_1 : decode cJ6_bitCount_0f7a4 1 = .ok (.iload_n 0, 1) := by decide +kernel
theorem dJ6_bitCount_0f7a4_2 : decode cJ6_bitCount_0f7a4 2 = .ok (.iconst 1, 1) := by decide +kernel
theorem dJ6_bitCount_0f7a4_3 : decode cJ6_bitCount_0f7a4 3 = .ok (.iushr, 1) := by decide +kernel
theorem dJ6_bitCount_0f7a4_4 : decode cJ6_bitCount_0f7a4 4 = .ok (.ldc_w 265, 3) := by decide +kernel
theorem dJ6_bitCount_0f7a4_7 : decode cJ6_bitCount_0f7a4 7 = .ok (.iand, 1) := by decide +kernel
theorem dJ6_bitCount_0f7a4_8 : decode cJ6_bitCount_0f7a4 8 = .ok (.isub, 1) := by decide +kernel
theorem dJ6_bitCount_0f7a4_9 : decode cJ6_bitCount_0f7a4 9 = .ok (.istore_n 0, 1) := by decide +kernel
theorem dJ6_bitCount_0f7a4_10 : decode cJ6_bitCount_0f7a4 10 = .ok (.iload_n 0, 1) := by decide +kernel
theorem dJ6_bitCount_0f7a4_11 : decode cJ6_bitCount_0f7a4 11 = .ok (.ldc_w 266, 3) := by decide +kernel
theorem dJ6_bitCount_0f7a4_14 : decode cJ6_bitCount_0f7a4 14 = .ok (.iand, 1) := by decide +kernel
theorem dJ6_bitCount_0f7a4_15 : decode cJ6_bitCount_0f7a4 15 = .ok (.iload_n 0, 1) := by decide +kernel
theorem dJ6_bitCount_0f7a4_16 : decode cJ6_bitCount_0f7a4 16 = .ok (.iconst 2, 1) := by decide +kernel
theorem dJ6_bitCount_0f7a4_17 : decode cJ6_bitCount_0f7a4 17 = .ok (.iushr, 1) := by decide +kernel
theorem dJ6_bitCount_0f7a4_18 : decode cJ6_bitCount_0f7a4 18 = .ok (.ldc_w 266, 3) := by decide +kernel
theorem dJ6_bitCount_0f7a4_21 : decode cJ6_bitCount_0f7a4 21 = .ok (.iand, 1) := by decide +kernel
theorem dJ6_bitCount_0f7a4_22 : decode cJ6_bitCount_0f7a4 22 = .ok (.iadd, 1) := by decide +kernel
theorem dJ6_bitCount_0f7a4_23 : decode cJ6_bitCount_0f7a4 23 = .ok (.istore_n 0, 1) := by decide +kernel
theorem dJ6_bitCount_0f7a4_24 : decode cJ6_bitCount_0f7a4 24 = .ok (.iload_n 0, 1) := by decide +kernel
theorem dJ6_bitCount_0f7a4_25 : decode cJ6_bitCount_0f7a4 25 = .ok (.iload_n 0, 1) := by decide +kernel
theorem dJ6_bitCount_0f7a4_26 : decode cJ6_bitCount_0f7a4 26 = .ok (.iconst 4, 1) := by decide +kernel
theorem dJ6_bitCount_0f7a4_27 : decode cJ6_bitCount_0f7a4 27 = .ok (.iushr, 1) := by decide +kernel
theorem dJ6_bitCount_0f7a4_28 : decode cJ6_bitCount_0f7a4 28 = .ok (.iadd, 1) := by decide +kernel
theorem dJ6_bitCount_0f7a4_29 : decode cJ6_bitCount_0f7a4 29 = .ok (.ldc_w 267, 3) := by decide +kernel
theorem dJ6_bitCount_0f7a4_32 : decode cJ6_bitCount_0f7a4 32 = .ok (.iand, 1) := by decide +kernel
theorem dJ6_bitCount_0f7a4_33 : decode cJ6_bitCount_0f7a4 33 = .ok (.istore_n 0, 1) := by decide +kernel
theorem dJ6_bitCount_0f7a4_34 : decode cJ6_bitCount_0f7a4 34 = .ok (.iload_n 0, 1) := by decide +kernel
theorem dJ6_bitCount_0f7a4_35 : decode cJ6_bitCount_0f7a4 35 = .ok (.iload_n 0, 1) := by decide +kernel
theorem dJ6_bitCount_0f7a4_36 : decode cJ6_bitCount_0f7a4 36 = .ok (.bipush 8, 2) := by decide +kernel
theorem dJ6_bitCount_0f7a4_38 : decode cJ6_bitCount_0f7a4 38 = .ok (.iushr, 1) := by decide +kernel
theorem dJ6_bitCount_0f7a4_39 : decode cJ6_bitCount_0f7a4 39 = .ok (.iadd, 1) := by decide +kernel
theorem dJ6_bitCount_0f7a4_40 : decode cJ6_bitCount_0f7a4 40 = .ok (.istore_n 0, 1) := by decide +kernel
theorem dJ6_bitCount_0f7a4_41 : decode cJ6_bitCount_0f7a4 41 = .ok (.iload_n 0, 1) := by decide +kernel
theorem dJ6_bitCount_0f7a4_42 : decode cJ6_bitCount_0f7a4 42 = .ok (.iload_n 0, 1) := by decide +kernel
theorem dJ6_bitCount_0f7a4_43 : decode cJ6_bitCount_0f7a4 43 = .ok (.bipush 16, 2) := by decide +kernel
theorem dJ6_bitCount_0f7a4_45 : decode cJ6_bitCount_0f7a4 45 = .ok (.iushr, 1) := by decide +kernel
theorem dJ6_bitCount_0f7a4_46 : decode cJ6_bitCount_0f7a4 46 = .ok (.iadd, 1) := by decide +kernel
theorem dJ6_bitCount_0f7a4_47 : decode cJ6_bitCount_0f7a4 47 = .ok (.istore_n 0, 1) := by decide +kernel
theorem dJ6_bitCount_0f7a4_48 : decode cJ6_bitCount_0f7a4 48 = .ok (.iload_n 0, 1) := by decide +kernel
theorem dJ6_bitCount_0f7a4_49 : decode cJ6_bitCount_0f7a4 49 = .ok (.bipush 63, 2) := by decide +kernel
theorem dJ6_bitCount_0f7a4_51 : decode cJ6_bitCount_0f7a4 51 = .ok (.iand, 1) := by decide +kernel
theorem dJ6_bitCount_0f7a4_52 : decode cJ6_bitCount_0f7a4 52 = .ok (.ireturn, 1) := by decide +kernel
set_option maxHeartbeats 4000000 in
set_option maxRecDepth 100000 in
theorem j_bitCount (l : Launch) (D : va_G) (K : Nat → ClassId) (ad : Nat → Nat) (z : TS) (o : Ok z) (x1 : Int32) : cI l yJ6_bitCount_0f7a4 cJ6_bitCount_0f7a4 1 .int ({ frames := 0, cells := 0, slots := 0, locals := 0 }) D K ad z [.int x1] (fun r u => u = z) := by
  refine t_enterI (by decide) (Nat.le_of_ble_eq_true rfl) rfl rfl ?_
  intro p e s m args below meth c A R Q H locs ls E hfr hlo RET G hl
  have E : mE p s m meth c cJ6_bitCount_0f7a4 args 1 RJ6 D K A := E
  have hl : lv_has ls 1 [(0, .int x1)] := hl
  refine lv_iload_n E.1 E.2.1 dJ6_bitCount_0f7a4_0 rfl (lv_at hl 0 rfl) ?_
  refine lv_iload_n E.1 E.2.1 dJ6_bitCount_0f7a4_1 rfl (lv_at hl 0 rfl) ?_
  refine lv_iconst (v := 1) E.1 E.2.1 dJ6_bitCount_0f7a4_2 (by decide) ?_
  refine lv_iushr E.1 E.2.1 dJ6_bitCount_0f7a4_3 rfl ?_
  refine lv_topi (fun v1 e2 => ?_)
  refine lv_ldcw (v := 1431655765) E.1 E.2.1 E.2.2.2.1 (E.2.2.2.2.1 _ mw_cI_J6_265) dJ6_bitCount_0f7a4_4 ?_
  refine lv_iand E.1 E.2.1 dJ6_bitCount_0f7a4_7 ?_
  refine lv_topi (fun v3 e4 => ?_)
  have b5 : iv 0 1431655765 v3 := by rw [e4]; exact iv_and (iv_lit (lo := 1431655765) (hi := 1431655765) 1431655765 (by decide) (by decide)) (by decide)
  refine lv_isub E.1 E.2.1 dJ6_bitCount_0f7a4_8 ?_
  refine lv_topi (fun v6 e7 => ?_)
  refine lv_istore_n (lv' := [(0, .int v6)]) E.1 E.2.1 dJ6_bitCount_0f7a4_9 rfl hl (by decide) rfl (fun ls hl => ?_)
  refine lv_iload_n E.1 E.2.1 dJ6_bitCount_0f7a4_10 rfl (lv_at hl 0 rfl) ?_
  refine lv_ldcw (v := 858993459) E.1 E.2.1 E.2.2.2.1 (E.2.2.2.2.1 _ mw_cI_J6_266) dJ6_bitCount_0f7a4_11 ?_
  refine lv_iand E.1 E.2.1 dJ6_bitCount_0f7a4_14 ?_
  refine lv_topi (fun v8 e9 => ?_)
  have b10 : iv 0 858993459 v8 := by rw [e9]; exact iv_and (iv_lit (lo := 858993459) (hi := 858993459) 858993459 (by decide) (by decide)) (by decide)
  refine lv_iload_n E.1 E.2.1 dJ6_bitCount_0f7a4_15 rfl (lv_at hl 0 rfl) ?_
  refine lv_iconst (v := 2) E.1 E.2.1 dJ6_bitCount_0f7a4_16 (by decide) ?_
  refine lv_iushr E.1 E.2.1 dJ6_bitCount_0f7a4_17 rfl ?_
  refine lv_topi (fun v11 e12 => ?_)
  refine lv_ldcw (v := 858993459) E.1 E.2.1 E.2.2.2.1 (E.2.2.2.2.1 _ mw_cI_J6_266) dJ6_bitCount_0f7a4_18 ?_
  refine lv_iand E.1 E.2.1 dJ6_bitCount_0f7a4_21 ?_
  refine lv_topi (fun v13 e14 => ?_)
  have b15 : iv 0 858993459 v13 := by rw [e14]; exact iv_and (iv_lit (lo := 858993459) (hi := 858993459) 858993459 (by decide) (by decide)) (by decide)
  refine lv_iadd E.1 E.2.1 dJ6_bitCount_0f7a4_22 ?_
  refine lv_topi (fun v16 e17 => ?_)
  have b18 : iv 0 1717986918 v16 := by rw [e17]; exact iv_add b10 b15 (by decide) (by decide) (by decide) (by decide)
  refine lv_istore_n (lv' := [(0, .int v16)]) E.1 E.2.1 dJ6_bitCount_0f7a4_23 rfl hl (by decide) rfl (fun ls hl => ?_)
  refine lv_iload_n E.1 E.2.1 dJ6_bitCount_0f7a4_24 rfl (lv_at hl 0 rfl) ?_
  refine lv_iload_n E.1 E.2.1 dJ6_bitCount_0f7a4_25 rfl (lv_at hl 0 rfl) ?_
  refine lv_iconst (v := 4) E.1 E.2.1 dJ6_bitCount_0f7a4_26 (by decide) ?_
  refine lv_iushr E.1 E.2.1 dJ6_bitCount_0f7a4_27 rfl ?_
  refine lv_topi (fun v19 e20 => ?_)
  refine lv_iadd E.1 E.2.1 dJ6_bitCount_0f7a4_28 ?_
  refine lv_topi (fun v21 e22 => ?_)
  refine lv_ldcw (v := 252645135) E.1 E.2.1 E.2.2.2.1 (E.2.2.2.2.1 _ mw_cI_J6_267) dJ6_bitCount_0f7a4_29 ?_
  refine lv_iand E.1 E.2.1 dJ6_bitCount_0f7a4_32 ?_
  refine lv_topi (fun v23 e24 => ?_)
  have b25 : iv 0 252645135 v23 := by rw [e24]; exact iv_and (iv_lit (lo := 252645135) (hi := 252645135) 252645135 (by decide) (by decide)) (by decide)
  refine lv_istore_n (lv' := [(0, .int v23)]) E.1 E.2.1 dJ6_bitCount_0f7a4_33 rfl hl (by decide) rfl (fun ls hl => ?_)
  refine lv_iload_n E.1 E.2.1 dJ6_bitCount_0f7a4_34 rfl (lv_at hl 0 rfl) ?_
  refine lv_iload_n E.1 E.2.1 dJ6_bitCount_0f7a4_35 rfl (lv_at hl 0 rfl) ?_
  refine lv_bipush (v := 8) E.1 E.2.1 dJ6_bitCount_0f7a4_36 (by decide) ?_
  refine lv_iushr E.1 E.2.1 dJ6_bitCount_0f7a4_38 rfl ?_
  refine lv_topi (fun v26 e27 => ?_)
  refine lv_iadd E.1 E.2.1 dJ6_bitCount_0f7a4_39 ?_
  refine lv_topi (fun v28 e29 => ?_)
  refine lv_istore_n (lv' := [(0, .int v28)]) E.1 E.2.1 dJ6_bitCount_0f7a4_40 rfl hl (by decide) rfl (fun ls hl => ?_)
  refine lv_iload_n E.1 E.2.1 dJ6_bitCount_0f7a4_41 rfl (lv_at hl 0 rfl) ?_
  refine lv_iload_n E.1 E.2.1 dJ6_bitCount_0f7a4_42 rfl (lv_at hl 0 rfl) ?_
  refine lv_bipush (v := 16) E.1 E.2.1 dJ6_bitCount_0f7a4_43 (by decide) ?_
  refine lv_iushr E.1 E.2.1 dJ6_bitCount_0f7a4_45 rfl ?_
  refine lv_topi (fun v30 e31 => ?_)
  refine lv_iadd E.1 E.2.1 dJ6_bitCount_0f7a4_46 ?_
  refine lv_topi (fun v32 e33 => ?_)
  refine lv_istore_n (lv' := [(0, .int v32)]) E.1 E.2.1 dJ6_bitCount_0f7a4_47 rfl hl (by decide) rfl (fun ls hl => ?_)
  refine lv_iload_n E.1 E.2.1 dJ6_bitCount_0f7a4_48 rfl (lv_at hl 0 rfl) ?_
  refine lv_bipush (v := 63) E.1 E.2.1 dJ6_bitCount_0f7a4_49 (by decide) ?_
  refine lv_iand E.1 E.2.1 dJ6_bitCount_0f7a4_51 ?_
  refine lv_topi (fun v34 e35 => ?_)
  have b36 : iv 0 63 v34 := by rw [e35]; exact iv_and (iv_lit (lo := 63) (hi := 63) 63 (by decide) (by decide)) (by decide)
  exact RET G rfl rfl dJ6_bitCount_0f7a4_52
