set_option maxHeartbeats 4000000 in
set_option maxRecDepth 100000 in
theorem law_set {p : Program} {e : Env} {s : State} {m : MethodId} {below : List Frame} {meth : Method} {c : Code} (l : Launch) {b L : Nat} {xs : Nat → Int32} {D : va_G} {K : Nat → ClassId} {A : Nat → Prop} {ad : Nat → Nat} {z : TS} {v : Int32} (hL : L ≤ 3072) (E : mE p s m meth c code #[Value.ref b] 4 RL D K A) (hX : va_X b L xs s s.heap) (hbl : b < s.heap.size) (hbA : ¬ A b) (j : JJ z) (h0 : 0 ≤ v.toInt) (h6 : v.toInt + 6 ≤ (L : Int)) (KK : ∀ (z : TS) (H : Heap) (locs : List Loc) (ls : Array Slot), mG D A s H locs (wd K ad z) → JJ z → lv_has ls 4 [(3, .int v), (2, .ref (ad 386)), (1, .ref (ad 0)), (0, .ref b)] → W p l e room_1 s m #[Value.ref b] below meth c H locs 600000 7302250 (lw_Z below #[Value.ref b] s) (F0 m 1250 ls [])) {H : Heap} {locs : List Loc} {ls : Array Slot} (G : mG D A s H locs (wd K ad z)) (hl : lv_has ls 4 [(3, .int v), (2, .ref (ad 386)), (1, .ref (ad 0)), (0, .ref b)]) : W p l e room_1 s m #[Value.ref b] below meth c H locs 600000 7302250 (lw_Z below #[Value.ref b] s) (F0 m 429 ls []) := by
  refine lv_aload_n E.1 E.2.1 dL_law_429 rfl (lv_at hl 2 rfl) ?_
  refine lv_aload_n E.1 E.2.1 dL_law_430 rfl (lv_at hl 3 rfl) ?_
  refine lv_iload_n E.1 E.2.1 dL_law_431 rfl (lv_at hl 0 rfl) ?_
  refine lv_iconst (v := 1) E.1 E.2.1 dL_law_432 (by decide) ?_
  refine lv_iadd E.1 E.2.1 dL_law_433 ?_
  refine va_sld E.1 E.2.1 hX hbl hbA G.2.2 (law_in h0 h6 hL 1 (iv_lit 1 (by decide) (by decide))) dL_law_434 ?_
  refine lv_topi (fun x1 ex1 => ?_)
  refine lv_aload_n E.1 E.2.1 dL_law_435 rfl (lv_at hl 3 rfl) ?_
  refine lv_iload_n E.1 E.2.1 dL_law_436 rfl (lv_at hl 0 rfl) ?_
  refine lv_iconst (v := 2) E.1 E.2.1 dL_law_437 (by decide) ?_
  refine lv_iadd E.1 E.2.1 dL_law_438 ?_
  refine va_sld E.1 E.2.1 hX hbl hbA G.2.2 (law_in h0 h6 hL 2 (iv_lit 2 (by decide) (by decide))) dL_law_439 ?_
  refine lv_topi (fun x2 ex2 => ?_)
  refine l_vi E G hl (k_set l D K ad z j.1 x1 x2) 10 (rfl : ro 0 = 10) (by decide) rfl rfl 2 rfl mw_code_X10_set mw_ini_10 mw_ml_L_53 mw_inst_X10_set mw_sel_X10_set hd_X10_set ⟨by decide, by decide⟩ rfl rfl ⟨by decide, by decide⟩ rfl (Nat.le_of_ble_eq_true rfl) dL_law_440 (fun ra ua H locs hpa G => ?_)
  refine lv_pop E.1 E.2.1 dL_law_443 rfl ?_
  have ja : JJ ua := JJ.c j hpa.1 hpa.2
  refine lv_aload_n E.1 E.2.1 dL_law_444 rfl (lv_at hl 1 rfl) ?_
  refine lv_aload_n E.1 E.2.1 dL_law_445 rfl (lv_at hl 3 rfl) ?_
  refine lv_iload_n E.1 E.2.1 dL_law_446 rfl (lv_at hl 0 rfl) ?_
  refine lv_iconst (v := 1) E.1 E.2.1 dL_law_447 (by decide) ?_
  refine lv_iadd E.1 E.2.1 dL_law_448 ?_
  refine va_sld E.1 E.2.1 hX hbl hbA G.2.2 (law_in h0 h6 hL 1 (iv_lit 1 (by decide) (by decide))) dL_law_449 ?_
  refine m_ci x1 ex1.symm ?_
  refine lv_aload_n E.1 E.2.1 dL_law_450 rfl (lv_at hl 3 rfl) ?_
  refine lv_iload_n E.1 E.2.1 dL_law_451 rfl (lv_at hl 0 rfl) ?_
  refine lv_iconst (v := 2) E.1 E.2.1 dL_law_452 (by decide) ?_
  refine lv_iadd E.1 E.2.1 dL_law_453 ?_
  refine va_sld E.1 E.2.1 hX hbl hbA G.2.2 (law_in h0 h6 hL 2 (iv_lit 2 (by decide) (by decide))) dL_law_454 ?_
  refine m_ci x2 ex2.symm ?_
  refine l_vi E G hl (v_set l D K ad ua ja.1 x1 x2) 11 (rfl : ro 386 = 11) (by decide) rfl rfl 2 rfl mw_code_X11_set mw_ini_11 mw_ml_L_56 mw_inst_X11_set mw_sel_X11_set hd_X11_set ⟨by decide, by decide⟩ rfl rfl ⟨by decide, by decide⟩ rfl (Nat.le_of_ble_eq_true rfl) dL_law_455 (fun rb ub H locs hpb G => ?_)
  have jb : JJ ub := JJ.r ja hpb.1 (KM.r hpb.2) (wf_ka ja.2.1 hpb.2.2.1 rfl rfl rfl rfl)
  refine lv_pop E.1 E.2.1 dL_law_458 rfl ?_
  refine lv_goto (tgt := 1250) E.1 E.2.1 dL_law_459 (by decide) ?_
  exact KK _ _ _ _ G jb hl
set_option maxHeartbeats 4000000 in
set_option maxRecDepth 100000 in
theorem law_move {p : Program} {e : Env} {s : State} {m : MethodId} {below : List Frame} {meth : Method} {c : Code} (l : Launch) {b L : Nat} {xs : Nat → Int32} {D : va_G} {K : Nat → ClassId} {A : Nat → Prop} {ad : Nat → Nat} {z : TS} {v : Int32} (hL : L ≤ 3072) (E : mE p s m meth c code #[Value.ref b] 4 RL D K A) (hX : va_X b L xs s s.heap) (hbl : b < s.heap.size) (hbA : ¬ A b) (j : JJ z) (h0 : 0 ≤ v.toInt) (h6 : v.toInt + 6 ≤ (L : Int)) (KK : ∀ (z : TS) (H : Heap) (locs : List Loc) (ls : Array Slot), mG D A s H locs (wd K ad z) → JJ z → lv_has ls 4 [(3, .int v), (2, .ref (ad 386)), (1, .ref (ad 0)), (0, .ref b)] → W p l e room_1 s m #[Value.ref b] below meth c H locs 600000 7302250 (lw_Z below #[Value.ref b] s) (F0 m 1250 ls [])) {H : Heap} {locs : List Loc} {ls : Array Slot} (G : mG D A s H locs (wd K ad z)) (hl : lv_has ls 4 [(3, .int v), (2, .ref (ad 386)), (1, .ref (ad 0)), (0, .ref b)]) : W p l e room_1 s m #[Value.ref b] below meth c H locs 600000 7302250 (lw_Z below #[Value.ref b] s) (F0 m 462 ls []) := by
  refine lv_aload_n E.1 E.2.1 dL_law_462 rfl (lv_at hl 2 rfl) ?_
  refine lv_aload_n E.1 E.2.1 dL_law_463 rfl (lv_at hl 3 rfl) ?_
  refine lv_iload_n E.1 E.2.1 dL_law_464 rfl (lv_at hl 0 rfl) ?_
  refine lv_iconst (v := 1) E.1 E.2.1 dL_law_465 (by decide) ?_
  refine lv_iadd E.1 E.2.1 dL_law_466 ?_
  refine va_sld E.1 E.2.1 hX hbl hbA G.2.2 (law_in h0 h6 hL 1 (iv_lit 1 (by decide) (by decide))) dL_law_467 ?_
  refine lv_topi (fun x1 ex1 => ?_)
  refine lv_aload_n E.1 E.2.1 dL_law_468 rfl (lv_at hl 3 rfl) ?_
  refine lv_iload_n E.1 E.2.1 dL_law_469 rfl (lv_at hl 0 rfl) ?_
  refine lv_iconst (v := 2) E.1 E.2.1 dL_law_470 (by decide) ?_
  refine lv_iadd E.1 E.2.1 dL_law_471 ?_
  refine va_sld E.1 E.2.1 hX hbl hbA G.2.2 (law_in h0 h6 hL 2 (iv_lit 2 (by decide) (by decide))) dL_law_472 ?_
  refine lv_topi (fun x2 ex2 => ?_)
  refine l_vi E G hl (k_move l D K ad z j.1 x1 x2) 10 (rfl : ro 0 = 10) (by decide) rfl rfl 2 rfl mw_code_X10_move mw_ini_10 mw_ml_L_57 mw_inst_X10_move mw_sel_X10_move hd_X10_move ⟨by decide, by decide⟩ rfl rfl ⟨by decide, by decide⟩ rfl (Nat.le_of_ble_eq_true rfl) dL_law_473 (fun ra ua H locs hpa G => ?_)
  refine lv_pop E.1 E.2.1 dL_law_476 rfl ?_
  have ja : JJ ua := JJ.c j hpa.1 hpa.2
  refine lv_aload_n E.1 E.2.1 dL_law_477 rfl (lv_at hl 1 rfl) ?_
  refine lv_aload_n E.1 E.2.1 dL_law_478 rfl (lv_at hl 3 rfl) ?_
  refine lv_iload_n E.1 E.2.1 dL_law_479 rfl (lv_at hl 0 rfl) ?_
  refine lv_iconst (v := 1) E.1 E.2.1 dL_law_480 (by decide) ?_
  refine lv_iadd E.1 E.2.1 dL_law_481 ?_
  refine va_sld E.1 E.2.1 hX hbl hbA G.2.2 (law_in h0 h6 hL 1 (iv_lit 1 (by decide) (by decide))) dL_law_482 ?_
  refine m_ci x1 ex1.symm ?_
  refine lv_aload_n E.1 E.2.1 dL_law_483 rfl (lv_at hl 3 rfl) ?_
  refine lv_iload_n E.1 E.2.1 dL_law_484 rfl (lv_at hl 0 rfl) ?_
  refine lv_iconst (v := 2) E.1 E.2.1 dL_law_485 (by decide) ?_
  refine lv_iadd E.1 E.2.1 dL_law_486 ?_
  refine va_sld E.1 E.2.1 hX hbl hbA G.2.2 (law_in h0 h6 hL 2 (iv_lit 2 (by decide) (by decide))) dL_law_487 ?_
  refine m_ci x2 ex2.symm ?_
  refine l_vi E G hl (v_move l D K ad ua ja.1 x1 x2) 11 (rfl : ro 386 = 11) (by decide) rfl rfl 2 rfl mw_code_X11_move mw_ini_11 mw_ml_L_60 mw_inst_X11_move mw_sel_X11_move hd_X11_move ⟨by decide, by decide⟩ rfl rfl ⟨by decide, by decide⟩ rfl (Nat.le_of_ble_eq_true rfl) dL_law_488 (fun rb ub H locs hpb G => ?_)
  have jb : JJ ub := JJ.r ja hpb.1 (KM.r hpb.2) (wf_ka ja.2.1 hpb.2.2.1 rfl rfl rfl rfl)
  refine lv_pop E.1 E.2.1 dL_law_491 rfl ?_
  refine lv_goto (tgt := 1250) E.1 E.2.1 dL_law_492 (by decide) ?_
  exact KK _ _ _ _ G jb hl
set_option maxHeartbeats 4000000 in
set_option maxRecDepth 100000 in
theorem law_bait {p : Program} {e : Env} {s : State} {m : MethodId} {below : List Frame} {meth : Method} {c : Code} (l : Launch) {b L : Nat} {xs : Nat → Int32} {D : va_G} {K : Nat → ClassId} {A : Nat → Prop} {ad : Nat → Nat} {z : TS} {v : Int32} (hL : L ≤ 3072) (E : mE p s m meth c code #[Value.ref b] 4 RL D K A) (hX : va_X b L xs s s.heap) (hbl : b < s.heap.size) (hbA : ¬ A b) (j : JJ z) (h0 : 0 ≤ v.toInt) (h6 : v.toInt + 6 ≤ (L : Int)) (KK : ∀ (z : TS) (H : Heap) (locs : List Loc) (ls : Array Slot), mG D A s H locs (wd K ad z) → JJ z → lv_has ls 4 [(3, .int v), (2, .ref (ad 386)), (1, .ref (ad 0)), (0, .ref b)] → W p l e room_1 s m #[Value.ref b] below meth c H locs 600000 7302250 (lw_Z below #[Value.ref b] s) (F0 m 1250 ls [])) {H : Heap} {locs : List Loc} {ls : Array Slot} (G : mG D A s H locs (wd K ad z)) (hl : lv_has ls 4 [(3, .int v), (2, .ref (ad 386)), (1, .ref (ad 0)), (0, .ref b)]) : W p l e room_1 s m #[Value.ref b] below meth c H locs 600000 7302250 (lw_Z below #[Value.ref b] s) (F0 m 495 ls []) := by
  refine lv_aload_n E.1 E.2.1 dL_law_495 rfl (lv_at hl 2 rfl) ?_
  refine lv_aload_n E.1 E.2.1 dL_law_496 rfl (lv_at hl 3 rfl) ?_
  refine lv_iload_n E.1 E.2.1 dL_law_497 rfl (lv_at hl 0 rfl) ?_
  refine lv_iconst (v := 1) E.1 E.2.1 dL_law_498 (by decide) ?_
  refine lv_iadd E.1 E.2.1 dL_law_499 ?_
  refine va_sld E.1 E.2.1 hX hbl hbA G.2.2 (law_in h0 h6 hL 1 (iv_lit 1 (by decide) (by decide))) dL_law_500 ?_
  refine lv_topi (fun x1 ex1 => ?_)
  refine lv_aload_n E.1 E.2.1 dL_law_501 rfl (lv_at hl 3 rfl) ?_
  refine lv_iload_n E.1 E.2.1 dL_law_502 rfl (lv_at hl 0 rfl) ?_
  refine lv_iconst (v := 2) E.1 E.2.1 dL_law_503 (by decide) ?_
  refine lv_iadd E.1 E.2.1 dL_law_504 ?_
  refine va_sld E.1 E.2.1 hX hbl hbA G.2.2 (law_in h0 h6 hL 2 (iv_lit 2 (by decide) (by decide))) dL_law_505 ?_
  refine lv_topi (fun x2 ex2 => ?_)
  refine l_vi E G hl (k_bait l D K ad z j.1 x1 x2) 10 (rfl : ro 0 = 10) (by decide) rfl rfl 2 rfl mw_code_X10_bait mw_ini_10 mw_ml_L_61 mw_inst_X10_bait mw_sel_X10_bait hd_X10_bait ⟨by decide, by decide⟩ rfl rfl ⟨by decide, by decide⟩ rfl (Nat.le_of_ble_eq_true rfl) dL_law_506 (fun ra ua H locs hpa G => ?_)
  refine lv_pop E.1 E.2.1 dL_law_509 rfl ?_
  have ja : JJ ua := JJ.c j hpa.1 hpa.2
  refine lv_aload_n E.1 E.2.1 dL_law_510 rfl (lv_at hl 1 rfl) ?_
  refine lv_aload_n E.1 E.2.1 dL_law_511 rfl (lv_at hl 3 rfl) ?_
  refine lv_iload_n E.1 E.2.1 dL_law_512 rfl (lv_at hl 0 rfl) ?_
  refine lv_iconst (v := 1) E.1 E.2.1 dL_law_513 (by decide) ?_
  refine lv_iadd E.1 E.2.1 dL_law_514 ?_
  refine va_sld E.1 E.2.1 hX hbl hbA G.2.2 (law_in h0 h6 hL 1 (iv_lit 1 (by decide) (by decide))) dL_law_515 ?_
  refine m_ci x1 ex1.symm ?_
  refine lv_aload_n E.1 E.2.1 dL_law_516 rfl (lv_at hl 3 rfl) ?_
  refine lv_iload_n E.1 E.2.1 dL_law_517 rfl (lv_at hl 0 rfl) ?_
  refine lv_iconst (v := 2) E.1 E.2.1 dL_law_518 (by decide) ?_
  refine lv_iadd E.1 E.2.1 dL_law_519 ?_
  refine va_sld E.1 E.2.1 hX hbl hbA G.2.2 (law_in h0 h6 hL 2 (iv_lit 2 (by decide) (by decide))) dL_law_520 ?_
  refine m_ci x2 ex2.symm ?_
  refine l_vi E G hl (v_bait l D K ad ua ja.1 x1 x2) 11 (rfl : ro 386 = 11) (by decide) rfl rfl 2 rfl mw_code_X11_bait mw_ini_11 mw_ml_L_64 mw_inst_X11_bait mw_sel_X11_bait hd_X11_bait ⟨by decide, by decide⟩ rfl rfl ⟨by decide, by decide⟩ rfl (Nat.le_of_ble_eq_true rfl) dL_law_521 (fun rb ub H locs hpb G => ?_)
  have jb : JJ ub := JJ.r ja hpb.1 (KM.r hpb.2) (wf_ka ja.2.1 hpb.2.2.1 rfl rfl rfl rfl)
  refine lv_pop E.1 E.2.1 dL_law_524 rfl ?_
  refine lv_goto (tgt := 1250) E.1 E.2.1 dL_law_525 (by decide) ?_
  exact KK _ _ _ _ G jb hl
set_option maxHeartbeats 4000000 in
set_option maxRecDepth 100000 in
theorem law_calm {p : Program} {e : Env} {s : State} {m : MethodId} {below : List Frame} {meth : Method} {c : Code} (l : Launch) {b L : Nat} {xs : Nat → Int32} {D : va_G} {K : Nat → ClassId} {A : Nat → Prop} {ad : Nat → Nat} {z : TS} {v : Int32} (hL : L ≤ 3072) (E : mE p s m meth c code #[Value.ref b] 4 RL D K A) (hX : va_X b L xs s s.heap) (hbl : b < s.heap.size) (hbA : ¬ A b) (j : JJ z) (h0 : 0 ≤ v.toInt) (h6 : v.toInt + 6 ≤ (L : Int)) (KK : ∀ (z : TS) (H : Heap) (locs : List Loc) (ls : Array Slot), mG D A s H locs (wd K ad z) → JJ z → lv_has ls 4 [(3, .int v), (2, .ref (ad 386)), (1, .ref (ad 0)), (0, .ref b)] → W p l e room_1 s m #[Value.ref b] below meth c H locs 600000 7302250 (lw_Z below #[Value.ref b] s) (F0 m 1250 ls [])) {H : Heap} {locs : List Loc} {ls : Array Slot} (G : mG D A s H locs (wd K ad z)) (hl : lv_has ls 4 [(3, .int v), (2, .ref (ad 386)), (1, .ref (ad 0)), (0, .ref b)]) : W p l e room_1 s m #[Value.ref b] below meth c H locs 600000 7302250 (lw_Z below #[Value.ref b] s) (F0 m 528 ls []) := by
  refine lv_aload_n E.1 E.2.1 dL_law_528 rfl (lv_at hl 2 rfl) ?_
  refine lv_aload_n E.1 E.2.1 dL_law_529 rfl (lv_at hl 3 rfl) ?_
  refine lv_iload_n E.1 E.2.1 dL_law_530 rfl (lv_at hl 0 rfl) ?_
  refine lv_iconst (v := 1) E.1 E.2.1 dL_law_531 (by decide) ?_
  refine lv_iadd E.1 E.2.1 dL_law_532 ?_
  refine va_sld E.1 E.2.1 hX hbl hbA G.2.2 (law_in h0 h6 hL 1 (iv_lit 1 (by decide) (by decide))) dL_law_533 ?_
  refine lv_topi (fun x1 ex1 => ?_)
  refine lv_aload_n E.1 E.2.1 dL_law_534 rfl (lv_at hl 3 rfl) ?_
  refine lv_iload_n E.1 E.2.1 dL_law_535 rfl (lv_at hl 0 rfl) ?_
  refine lv_iconst (v := 2) E.1 E.2.1 dL_law_536 (by decide) ?_
  refine lv_iadd E.1 E.2.1 dL_law_537 ?_
  refine va_sld E.1 E.2.1 hX hbl hbA G.2.2 (law_in h0 h6 hL 2 (iv_lit 2 (by decide) (by decide))) dL_law_538 ?_
  refine lv_topi (fun x2 ex2 => ?_)
  refine l_vi E G hl (k_calm l D K ad z j.1 x1 x2) 10 (rfl : ro 0 = 10) (by decide) rfl rfl 2 rfl mw_code_X10_calm mw_ini_10 mw_ml_L_65 mw_inst_X10_calm mw_sel_X10_calm hd_X10_calm ⟨by decide, by decide⟩ rfl rfl ⟨by decide, by decide⟩ rfl (Nat.le_of_ble_eq_true rfl) dL_law_539 (fun ra ua H locs hpa G => ?_)
  refine lv_pop E.1 E.2.1 dL_law_542 rfl ?_
  have ja : JJ ua := JJ.c j hpa.1 hpa.2
  refine lv_aload_n E.1 E.2.1 dL_law_543 rfl (lv_at hl 1 rfl) ?_
  refine lv_aload_n E.1 E.2.1 dL_law_544 rfl (lv_at hl 3 rfl) ?_
  refine lv_iload_n E.1 E.2.1 dL_law_545 rfl (lv_at hl 0 rfl) ?_
  refine lv_iconst (v := 1) E.1 E.2.1 dL_law_546 (by decide) ?_
  refine lv_iadd E.1 E.2.1 dL_law_547 ?_
  refine va_sld E.1 E.2.1 hX hbl hbA G.2.2 (law_in h0 h6 hL 1 (iv_lit 1 (by decide) (by decide))) dL_law_548 ?_
  refine m_ci x1 ex1.symm ?_
  refine lv_aload_n E.1 E.2.1 dL_law_549 rfl (lv_at hl 3 rfl) ?_
  refine lv_iload_n E.1 E.2.1 dL_law_550 rfl (lv_at hl 0 rfl) ?_
  refine lv_iconst (v := 2) E.1 E.2.1 dL_law_551 (by decide) ?_
  refine lv_iadd E.1 E.2.1 dL_law_552 ?_
  refine va_sld E.1 E.2.1 hX hbl hbA G.2.2 (law_in h0 h6 hL 2 (iv_lit 2 (by decide) (by decide))) dL_law_553 ?_
  refine m_ci x2 ex2.symm ?_
  refine l_vi E G hl (v_calm l D K ad ua ja.1 x1 x2) 11 (rfl : ro 386 = 11) (by decide) rfl rfl 2 rfl mw_code_X11_calm mw_ini_11 mw_ml_L_68 mw_inst_X11_calm mw_sel_X11_calm hd_X11_calm ⟨by decide, by decide⟩ rfl rfl ⟨by decide, by decide⟩ rfl (Nat.le_of_ble_eq_true rfl) dL_law_554 (fun rb ub H locs hpb G => ?_)
  have jb : JJ ub := JJ.r ja hpb.1 (KM.r hpb.2) (wf_ka ja.2.1 hpb.2.2.1 rfl rfl rfl rfl)
  refine lv_pop E.1 E.2.1 dL_law_557 rfl ?_
  refine lv_goto (tgt := 1250) E.1 E.2.1 dL_law_558 (by decide) ?_
  exact KK _ _ _ _ G jb hl
set_option maxHeartbeats 4000000 in
set_option maxRecDepth 100000 in
theorem law_undo {p : Program} {e : Env} {s : State} {m : MethodId} {below : List Frame} {meth : Method} {c : Code} (l : Launch) {b L : Nat} {xs : Nat → Int32} {D : va_G} {K : Nat → ClassId} {A : Nat → Prop} {ad : Nat → Nat} {z : TS} {v : Int32} (hL : L ≤ 3072) (E : mE p s m meth c code #[Value.ref b] 4 RL D K A) (hX : va_X b L xs s s.heap) (hbl : b < s.heap.size) (hbA : ¬ A b) (j : JJ z) (h0 : 0 ≤ v.toInt) (h6 : v.toInt + 6 ≤ (L : Int)) (KK : ∀ (z : TS) (H : Heap) (locs : List Loc) (ls : Array Slot), mG D A s H locs (wd K ad z) → JJ z → lv_has ls 4 [(3, .int v), (2, .ref (ad 386)), (1, .ref (ad 0)), (0, .ref b)] → W p l e room_1 s m #[Value.ref b] below meth c H locs 600000 7302250 (lw_Z below #[Value.ref b] s) (F0 m 1250 ls [])) {H : Heap} {locs : List Loc} {ls : Array Slot} (G : mG D A s H locs (wd K ad z)) (hl : lv_has ls 4 [(3, .int v), (2, .ref (ad 386)), (1, .ref (ad 0)), (0, .ref b)]) : W p l e room_1 s m #[Value.ref b] below meth c H locs 600000 7302250 (lw_Z below #[Value.ref b] s) (F0 m 561 ls []) := by
  refine lv_aload_n E.1 E.2.1 dL_law_561 rfl (lv_at hl 2 rfl) ?_
  refine l_vi E G hl (k_undo l D K ad z j.1) 10 (rfl : ro 0 = 10) (by decide) rfl rfl 0 rfl mw_code_X10_undo mw_ini_10 mw_ml_L_69 mw_inst_X10_undo mw_sel_X10_undo hd_X10_undo ⟨by decide, by decide⟩ rfl rfl ⟨by decide, by decide⟩ rfl (Nat.le_of_ble_eq_true rfl) dL_law_562 (fun ra ua H locs hpa G => ?_)
  refine lv_pop E.1 E.2.1 dL_law_565 rfl ?_
  have ja : JJ ua := JJ.c j hpa.1 hpa.2
  refine lv_aload_n E.1 E.2.1 dL_law_566 rfl (lv_at hl 1 rfl) ?_
  refine l_vi E G hl (v_undo l D K ad ua ja.1) 11 (rfl : ro 386 = 11) (by decide) rfl rfl 0 rfl mw_code_X11_undo mw_ini_11 mw_ml_L_72 mw_inst_X11_undo mw_sel_X11_undo hd_X11_undo ⟨by decide, by decide⟩ rfl rfl ⟨by decide, by decide⟩ rfl (Nat.le_of_ble_eq_true rfl) dL_law_567 (fun rb ub H locs hpb G => ?_)
  have jb : JJ ub := JJ.r ja hpb.1 (KM.r hpb.2) (wf_ka ja.2.1 hpb.2.2.1 rfl rfl rfl rfl)
  refine lv_pop E.1 E.2.1 dL_law_570 rfl ?_
  refine lv_goto (tgt := 1250) E.1 E.2.1 dL_law_571 (by decide) ?_
  exact KK _ _ _ _ G jb hl
set_option maxHeartbeats 4000000 in
set_option maxRecDepth 100000 in
theorem law_ahead {p : Program} {e : Env} {s : State} {m : MethodId} {below : List Frame} {meth : Method} {c : Code} (l : Launch) {b L : Nat} {xs : Nat → Int32} {D : va_G} {K : Nat → ClassId} {A : Nat → Prop} {ad : Nat → Nat} {z : TS} {v : Int32} (hL : L ≤ 3072) (E : mE p s m meth c code #[Value.ref b] 4 RL D K A) (hX : va_X b L xs s s.heap) (hbl : b < s.heap.size) (hbA : ¬ A b) (j : JJ z) (h0 : 0 ≤ v.toInt) (h6 : v.toInt + 6 ≤ (L : Int)) (KK : ∀ (z : TS) (H : Heap) (locs : List Loc) (ls : Array Slot), mG D A s H locs (wd K ad z) → JJ z → lv_has ls 4 [(3, .int v), (2, .ref (ad 386)), (1, .ref (ad 0)), (0, .ref b)] → W p l e room_1 s m #[Value.ref b] below meth c H locs 600000 7302250 (lw_Z below #[Value.ref b] s) (F0 m 1250 ls [])) {H : Heap} {locs : List Loc} {ls : Array Slot} (G : mG D A s H locs (wd K ad z)) (hl : lv_has ls 4 [(3, .int v), (2, .ref (ad 386)), (1, .ref (ad 0)), (0, .ref b)]) : W p l e room_1 s m #[Value.ref b] below meth c H locs 600000 7302250 (lw_Z below #[Value.ref b] s) (F0 m 574 ls []) := by
  refine lv_aload_n E.1 E.2.1 dL_law_574 rfl (lv_at hl 2 rfl) ?_
  refine lv_aload_n E.1 E.2.1 dL_law_575 rfl (lv_at hl 3 rfl) ?_
  refine lv_iload_n E.1 E.2.1 dL_law_576 rfl (lv_at hl 0 rfl) ?_
  refine lv_iconst (v := 1) E.1 E.2.1 dL_law_577 (by decide) ?_
  refine lv_iadd E.1 E.2.1 dL_law_578 ?_
  refine va_sld E.1 E.2.1 hX hbl hbA G.2.2 (law_in h0 h6 hL 1 (iv_lit 1 (by decide) (by decide))) dL_law_579 ?_
  refine lv_topi (fun x1 ex1 => ?_)
  refine lv_aload_n E.1 E.2.1 dL_law_580 rfl (lv_at hl 3 rfl) ?_
  refine lv_iload_n E.1 E.2.1 dL_law_581 rfl (lv_at hl 0 rfl) ?_
  refine lv_iconst (v := 2) E.1 E.2.1 dL_law_582 (by decide) ?_
  refine lv_iadd E.1 E.2.1 dL_law_583 ?_
  refine va_sld E.1 E.2.1 hX hbl hbA G.2.2 (law_in h0 h6 hL 2 (iv_lit 2 (by decide) (by decide))) dL_law_584 ?_
  refine lv_topi (fun x2 ex2 => ?_)
  refine lv_aload_n E.1 E.2.1 dL_law_585 rfl (lv_at hl 3 rfl) ?_
  refine lv_iload_n E.1 E.2.1 dL_law_586 rfl (lv_at hl 0 rfl) ?_
  refine lv_iconst (v := 3) E.1 E.2.1 dL_law_587 (by decide) ?_
  refine lv_iadd E.1 E.2.1 dL_law_588 ?_
  refine va_sld E.1 E.2.1 hX hbl hbA G.2.2 (law_in h0 h6 hL 3 (iv_lit 3 (by decide) (by decide))) dL_law_589 ?_
  refine lv_topi (fun x3 ex3 => ?_)
  refine l_vi E G hl (k_ahead l D K ad z j.1 x1 x2 x3) 10 (rfl : ro 0 = 10) (by decide) rfl rfl 3 rfl mw_code_X10_ahead mw_ini_10 mw_ml_L_73 mw_inst_X10_ahead mw_sel_X10_ahead hd_X10_ahead ⟨by decide, by decide⟩ rfl rfl ⟨by decide, by decide⟩ rfl (Nat.le_of_ble_eq_true rfl) dL_law_590 (fun ra ua H locs hpa G => ?_)
  refine lv_pop E.1 E.2.1 dL_law_593 rfl ?_
  have ja : JJ ua := JJ.c j hpa.1 hpa.2
  refine lv_aload_n E.1 E.2.1 dL_law_594 rfl (lv_at hl 1 rfl) ?_
  refine lv_aload_n E.1 E.2.1 dL_law_595 rfl (lv_at hl 3 rfl) ?_
  refine lv_iload_n E.1 E.2.1 dL_law_596 rfl (lv_at hl 0 rfl) ?_
  refine lv_iconst (v := 1) E.1 E.2.1 dL_law_597 (by decide) ?_
  refine lv_iadd E.1 E.2.1 dL_law_598 ?_
  refine va_sld E.1 E.2.1 hX hbl hbA G.2.2 (law_in h0 h6 hL 1 (iv_lit 1 (by decide) (by decide))) dL_law_599 ?_
  refine m_ci x1 ex1.symm ?_
  refine lv_aload_n E.1 E.2.1 dL_law_600 rfl (lv_at hl 3 rfl) ?_
  refine lv_iload_n E.1 E.2.1 dL_law_601 rfl (lv_at hl 0 rfl) ?_
  refine lv_iconst (v := 2) E.1 E.2.1 dL_law_602 (by decide) ?_
  refine lv_iadd E.1 E.2.1 dL_law_603 ?_
  refine va_sld E.1 E.2.1 hX hbl hbA G.2.2 (law_in h0 h6 hL 2 (iv_lit 2 (by decide) (by decide))) dL_law_604 ?_
  refine m_ci x2 ex2.symm ?_
  refine lv_aload_n E.1 E.2.1 dL_law_605 rfl (lv_at hl 3 rfl) ?_
  refine lv_iload_n E.1 E.2.1 dL_law_606 rfl (lv_at hl 0 rfl) ?_
  refine lv_iconst (v := 3) E.1 E.2.1 dL_law_607 (by decide) ?_
  refine lv_iadd E.1 E.2.1 dL_law_608 ?_
  refine va_sld E.1 E.2.1 hX hbl hbA G.2.2 (law_in h0 h6 hL 3 (iv_lit 3 (by decide) (by decide))) dL_law_609 ?_
  refine m_ci x3 ex3.symm ?_
  refine l_vi E G hl (v_ahead l D K ad ua ja.1 x1 x2 x3 ja.2.1) 11 (rfl : ro 386 = 11) (by decide) rfl rfl 3 rfl mw_code_X11_ahead mw_ini_11 mw_ml_L_77 mw_inst_X11_ahead mw_sel_X11_ahead hd_X11_ahead ⟨by decide, by decide⟩ rfl rfl ⟨by decide, by decide⟩ rfl (Nat.le_of_ble_eq_true rfl) dL_law_610 (fun rb ub H locs hpb G => ?_)
  have jb : JJ ub := JJ.r ja hpb.1 (KM.r hpb.2) (wf_ka ja.2.1 hpb.2.2.1 rfl rfl rfl rfl)
  refine lv_pop E.1 E.2.1 dL_law_613 rfl ?_
  refine lv_goto (tgt := 1250) E.1 E.2.1 dL_law_614 (by decide) ?_
  exact KK _ _ _ _ G jb hl
set_option maxHeartbeats 4000000 in
set_option maxRecDepth 100000 in
theorem law_had {p : Program} {e : Env} {s : State} {m : MethodId} {below : List Frame} {meth : Method} {c : Code} (l : Launch) {b L : Nat} {xs : Nat → Int32} {D : va_G} {K : Nat → ClassId} {A : Nat → Prop} {ad : Nat → Nat} {z : TS} {v : Int32} (hL : L ≤ 3072) (E : mE p s m meth c code #[Value.ref b] 4 RL D K A) (hX : va_X b L xs s s.heap) (hbl : b < s.heap.size) (hbA : ¬ A b) (j : JJ z) (h0 : 0 ≤ v.toInt) (h6 : v.toInt + 6 ≤ (L : Int)) (KK : ∀ (z : TS) (H : Heap) (locs : List Loc) (ls : Array Slot), mG D A s H locs (wd K ad z) → JJ z → lv_has ls 4 [(3, .int v), (2, .ref (ad 386)), (1, .ref (ad 0)), (0, .ref b)] → W p l e room_1 s m #[Value.ref b] below meth c H locs 600000 7302250 (lw_Z below #[Value.ref b] s) (F0 m 1250 ls [])) {H : Heap} {locs : List Loc} {ls : Array Slot} (G : mG D A s H locs (wd K ad z)) (hl : lv_has ls 4 [(3, .int v), (2, .ref (ad 386)), (1, .ref (ad 0)), (0, .ref b)]) : W p l e room_1 s m #[Value.ref b] below meth c H locs 600000 7302250 (lw_Z below #[Value.ref b] s) (F0 m 617 ls []) := by
  refine lv_aload_n E.1 E.2.1 dL_law_617 rfl (lv_at hl 2 rfl) ?_
  refine lv_aload_n E.1 E.2.1 dL_law_618 rfl (lv_at hl 3 rfl) ?_
  refine lv_iload_n E.1 E.2.1 dL_law_619 rfl (lv_at hl 0 rfl) ?_
  refine lv_iconst (v := 1) E.1 E.2.1 dL_law_620 (by decide) ?_
  refine lv_iadd E.1 E.2.1 dL_law_621 ?_
  refine va_sld E.1 E.2.1 hX hbl hbA G.2.2 (law_in h0 h6 hL 1 (iv_lit 1 (by decide) (by decide))) dL_law_622 ?_
  refine lv_topi (fun x1 ex1 => ?_)
  refine lv_aload_n E.1 E.2.1 dL_law_623 rfl (lv_at hl 3 rfl) ?_
  refine lv_iload_n E.1 E.2.1 dL_law_624 rfl (lv_at hl 0 rfl) ?_
  refine lv_iconst (v := 2) E.1 E.2.1 dL_law_625 (by decide) ?_
  refine lv_iadd E.1 E.2.1 dL_law_626 ?_
  refine va_sld E.1 E.2.1 hX hbl hbA G.2.2 (law_in h0 h6 hL 2 (iv_lit 2 (by decide) (by decide))) dL_law_627 ?_
  refine lv_topi (fun x2 ex2 => ?_)
  refine l_vi E G hl (k_had l D K ad z j.1 x1 x2) 10 (rfl : ro 0 = 10) (by decide) rfl rfl 2 rfl mw_code_X10_had mw_ini_10 mw_ml_L_78 mw_inst_X10_had mw_sel_X10_had hd_X10_had ⟨by decide, by decide⟩ rfl rfl ⟨by decide, by decide⟩ rfl (Nat.le_of_ble_eq_true rfl) dL_law_628 (fun ra ua H locs hpa G => ?_)
  refine lv_pop E.1 E.2.1 dL_law_631 rfl ?_
  have ja : JJ ua := JJ.c j hpa.1 hpa.2
  refine lv_aload_n E.1 E.2.1 dL_law_632 rfl (lv_at hl 1 rfl) ?_
  refine lv_aload_n E.1 E.2.1 dL_law_633 rfl (lv_at hl 3 rfl) ?_
  refine lv_iload_n E.1 E.2.1 dL_law_634 rfl (lv_at hl 0 rfl) ?_
  refine lv_iconst (v := 1) E.1 E.2.1 dL_law_635 (by decide) ?_
  refine lv_iadd E.1 E.2.1 dL_law_636 ?_
  refine va_sld E.1 E.2.1 hX hbl hbA G.2.2 (law_in h0 h6 hL 1 (iv_lit 1 (by decide) (by decide))) dL_law_637 ?_
  refine m_ci x1 ex1.symm ?_
  refine lv_aload_n E.1 E.2.1 dL_law_638 rfl (lv_at hl 3 rfl) ?_
  refine lv_iload_n E.1 E.2.1 dL_law_639 rfl (lv_at hl 0 rfl) ?_
  refine lv_iconst (v := 2) E.1 E.2.1 dL_law_640 (by decide) ?_
  refine lv_iadd E.1 E.2.1 dL_law_641 ?_
  refine va_sld E.1 E.2.1 hX hbl hbA G.2.2 (law_in h0 h6 hL 2 (iv_lit 2 (by decide) (by decide))) dL_law_642 ?_
  refine m_ci x2 ex2.symm ?_
  refine l_vi E G hl (v_had l D K ad ua ja.1 x1 x2 ja.2.1) 11 (rfl : ro 386 = 11) (by decide) rfl rfl 2 rfl mw_code_X11_had mw_ini_11 mw_ml_L_81 mw_inst_X11_had mw_sel_X11_had hd_X11_had ⟨by decide, by decide⟩ rfl rfl ⟨by decide, by decide⟩ rfl (Nat.le_of_ble_eq_true rfl) dL_law_643 (fun rb ub H locs hpb G => ?_)
  have jb : JJ ub := JJ.r ja hpb.1 (KM.r hpb.2) (wf_ka ja.2.1 hpb.2.2.1 rfl rfl rfl rfl)
  refine lv_pop E.1 E.2.1 dL_law_646 rfl ?_
  refine lv_goto (tgt := 1250) E.1 E.2.1 dL_law_647 (by decide) ?_
  exact KK _ _ _ _ G jb hl
set_option maxHeartbeats 4000000 in
set_option maxRecDepth 100000 in
theorem law_first {p : Program} {e : Env} {s : State} {m : MethodId} {below : List Frame} {meth : Method} {c : Code} (l : Launch) {b L : Nat} {xs : Nat → Int32} {D : va_G} {K : Nat → ClassId} {A : Nat → Prop} {ad : Nat → Nat} {z : TS} {v : Int32} (hL : L ≤ 3072) (E : mE p s m meth c code #[Value.ref b] 4 RL D K A) (hX : va_X b L xs s s.heap) (hbl : b < s.heap.size) (hbA : ¬ A b) (j : JJ z) (h0 : 0 ≤ v.toInt) (h6 : v.toInt + 6 ≤ (L : Int)) (KK : ∀ (z : TS) (H : Heap) (locs : List Loc) (ls : Array Slot), mG D A s H locs (wd K ad z) → JJ z → lv_has ls 4 [(3, .int v), (2, .ref (ad 386)), (1, .ref (ad 0)), (0, .ref b)] → W p l e room_1 s m #[Value.ref b] below meth c H locs 600000 7302250 (lw_Z below #[Value.ref b] s) (F0 m 1250 ls [])) {H : Heap} {locs : List Loc} {ls : Array Slot} (G : mG D A s H locs (wd K ad z)) (hl : lv_has ls 4 [(3, .int v), (2, .ref (ad 386)), (1, .ref (ad 0)), (0, .ref b)]) : W p l e room_1 s m #[Value.ref b] below meth c H locs 600000 7302250 (lw_Z below #[Value.ref b] s) (F0 m 650 ls []) := by
  refine lv_aload_n E.1 E.2.1 dL_law_650 rfl (lv_at hl 2 rfl) ?_
  refine lv_aload_n E.1 E.2.1 dL_law_651 rfl (lv_at hl 3 rfl) ?_
  refine lv_iload_n E.1 E.2.1 dL_law_652 rfl (lv_at hl 0 rfl) ?_
  refine lv_iconst (v := 1) E.1 E.2.1 dL_law_653 (by decide) ?_
  refine lv_iadd E.1 E.2.1 dL_law_654 ?_
  refine va_sld E.1 E.2.1 hX hbl hbA G.2.2 (law_in h0 h6 hL 1 (iv_lit 1 (by decide) (by decide))) dL_law_655 ?_
  refine lv_topi (fun x1 ex1 => ?_)
  refine l_vi E G hl (k_first l D K ad z j.1 x1) 10 (rfl : ro 0 = 10) (by decide) rfl rfl 1 rfl mw_code_X10_first mw_ini_10 mw_ml_L_82 mw_inst_X10_first mw_sel_X10_first hd_X10_first ⟨by decide, by decide⟩ rfl rfl ⟨by decide, by decide⟩ rfl (Nat.le_of_ble_eq_true rfl) dL_law_656 (fun ra ua H locs hpa G => ?_)
  refine lv_pop E.1 E.2.1 dL_law_659 rfl ?_
  have ja : JJ ua := JJ.c j hpa.1 hpa.2
  refine lv_aload_n E.1 E.2.1 dL_law_660 rfl (lv_at hl 1 rfl) ?_
  refine lv_aload_n E.1 E.2.1 dL_law_661 rfl (lv_at hl 3 rfl) ?_
  refine lv_iload_n E.1 E.2.1 dL_law_662 rfl (lv_at hl 0 rfl) ?_
  refine lv_iconst (v := 1) E.1 E.2.1 dL_law_663 (by decide) ?_
  refine lv_iadd E.1 E.2.1 dL_law_664 ?_
  refine va_sld E.1 E.2.1 hX hbl hbA G.2.2 (law_in h0 h6 hL 1 (iv_lit 1 (by decide) (by decide))) dL_law_665 ?_
  refine m_ci x1 ex1.symm ?_
  refine l_vi E G hl (v_first l D K ad ua ja.1 x1 ja.2.1) 11 (rfl : ro 386 = 11) (by decide) rfl rfl 1 rfl mw_code_X11_first mw_ini_11 mw_ml_L_85 mw_inst_X11_first mw_sel_X11_first hd_X11_first ⟨by decide, by decide⟩ rfl rfl ⟨by decide, by decide⟩ rfl (Nat.le_of_ble_eq_true rfl) dL_law_666 (fun rb ub H locs hpb G => ?_)
  have jb : JJ ub := JJ.r ja hpb.1 (KM.r hpb.2) (wf_ka ja.2.1 hpb.2.2.1 rfl rfl rfl rfl)
  refine lv_pop E.1 E.2.1 dL_law_669 rfl ?_
  refine lv_goto (tgt := 1250) E.1 E.2.1 dL_law_670 (by decide) ?_
  exact KK _ _ _ _ G jb hl
set_option maxHeartbeats 4000000 in
set_option maxRecDepth 100000 in
theorem law_far {p : Program} {e : Env} {s : State} {m : MethodId} {below : List Frame} {meth : Method} {c : Code} (l : Launch) {b L : Nat} {xs : Nat → Int32} {D : va_G} {K : Nat → ClassId} {A : Nat → Prop} {ad : Nat → Nat} {z : TS} {v : Int32} (hL : L ≤ 3072) (E : mE p s m meth c code #[Value.ref b] 4 RL D K A) (hX : va_X b L xs s s.heap) (hbl : b < s.heap.size) (hbA : ¬ A b) (j : JJ z) (h0 : 0 ≤ v.toInt) (h6 : v.toInt + 6 ≤ (L : Int)) (KK : ∀ (z : TS) (H : Heap) (locs : List Loc) (ls : Array Slot), mG D A s H locs (wd K ad z) → JJ z → lv_has ls 4 [(3, .int v), (2, .ref (ad 386)), (1, .ref (ad 0)), (0, .ref b)] → W p l e room_1 s m #[Value.ref b] below meth c H locs 600000 7302250 (lw_Z below #[Value.ref b] s) (F0 m 1250 ls [])) {H : Heap} {locs : List Loc} {ls : Array Slot} (G : mG D A s H locs (wd K ad z)) (hl : lv_has ls 4 [(3, .int v), (2, .ref (ad 386)), (1, .ref (ad 0)), (0, .ref b)]) : W p l e room_1 s m #[Value.ref b] below meth c H locs 600000 7302250 (lw_Z below #[Value.ref b] s) (F0 m 673 ls []) := by
  refine lv_aload_n E.1 E.2.1 dL_law_673 rfl (lv_at hl 2 rfl) ?_
  refine lv_aload_n E.1 E.2.1 dL_law_674 rfl (lv_at hl 3 rfl) ?_
  refine lv_iload_n E.1 E.2.1 dL_law_675 rfl (lv_at hl 0 rfl) ?_
  refine lv_iconst (v := 1) E.1 E.2.1 dL_law_676 (by decide) ?_
  refine lv_iadd E.1 E.2.1 dL_law_677 ?_
  refine va_sld E.1 E.2.1 hX hbl hbA G.2.2 (law_in h0 h6 hL 1 (iv_lit 1 (by decide) (by decide))) dL_law_678 ?_
  refine lv_topi (fun x1 ex1 => ?_)
  refine l_vi E G hl (k_far l D K ad z j.1 x1) 10 (rfl : ro 0 = 10) (by decide) rfl rfl 1 rfl mw_code_X10_far mw_ini_10 mw_ml_L_86 mw_inst_X10_far mw_sel_X10_far hd_X10_far ⟨by decide, by decide⟩ rfl rfl ⟨by decide, by decide⟩ rfl (Nat.le_of_ble_eq_true rfl) dL_law_679 (fun ra ua H locs hpa G => ?_)
  refine lv_pop E.1 E.2.1 dL_law_682 rfl ?_
  rw [hpa] at G
  refine lv_aload_n E.1 E.2.1 dL_law_683 rfl (lv_at hl 1 rfl) ?_
  refine lv_aload_n E.1 E.2.1 dL_law_684 rfl (lv_at hl 3 rfl) ?_
  refine lv_iload_n E.1 E.2.1 dL_law_685 rfl (lv_at hl 0 rfl) ?_
  refine lv_iconst (v := 1) E.1 E.2.1 dL_law_686 (by decide) ?_
  refine lv_iadd E.1 E.2.1 dL_law_687 ?_
  refine va_sld E.1 E.2.1 hX hbl hbA G.2.2 (law_in h0 h6 hL 1 (iv_lit 1 (by decide) (by decide))) dL_law_688 ?_
  refine m_ci x1 ex1.symm ?_
  refine l_vi E G hl (v_far l D K ad z j.1 x1) 11 (rfl : ro 386 = 11) (by decide) rfl rfl 1 rfl mw_code_X11_far mw_ini_11 mw_ml_L_89 mw_inst_X11_far mw_sel_X11_far hd_X11_far ⟨by decide, by decide⟩ rfl rfl ⟨by decide, by decide⟩ rfl (Nat.le_of_ble_eq_true rfl) dL_law_689 (fun rb ub H locs hpb G => ?_)
  rw [hpb] at G
  refine lv_pop E.1 E.2.1 dL_law_692 rfl ?_
  refine lv_goto (tgt := 1250) E.1 E.2.1 dL_law_693 (by decide) ?_
  exact KK _ _ _ _ G j hl
