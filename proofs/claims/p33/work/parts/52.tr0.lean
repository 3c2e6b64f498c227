theorem mw_fl_9_21 : (Cond.fieldLink RX9 21 "LureTown$TownReader" "town" "LLureTown$Town;" : Cond) ∈ cw := cw_of (List.mem_append_right _ (List.mem_append_left _ (List.mem_of_getElem? (i := 183) (by decide +kernel)))) (by decide +kernel)
theorem mw_fl_9_76 : (Cond.fieldLink RX9 76 "LureTown$Town" "lureCount" "I" : Cond) ∈ cw := cw_of (List.mem_append_right _ (List.mem_append_left _ (List.mem_of_getElem? (i := 141) (by decide +kernel)))) (by decide +kernel)
theorem mw_fl_9_79 : (Cond.fieldLink RX9 79 "LureTown$Town" "walkerCount" "I" : Cond) ∈ cw := cw_of (List.mem_append_right _ (List.mem_append_left _ (List.mem_of_getElem? (i := 146) (by decide +kernel)))) (by decide +kernel)
theorem mw_fl_9_85 : (Cond.fieldLink RX9 85 "LureTown$Town" "cornerCount" "I" : Cond) ∈ cw := cw_of (List.mem_append_right _ (List.mem_append_left _ (List.mem_of_getElem? (i := 136) (by decide +kernel)))) (by decide +kernel)
theorem dX9_isTooMany_0 : decode cX9_isTooMany 0 = .ok (.iload_n 2, 1) := by decide +kernel
theorem dX9_isTooMany_1 : decode cX9_isTooMany 1 = .ok (.bipush 40, 2) := by decide +kernel
theorem dX9_isTooMany_3 : decode cX9_isTooMany 3 = .ok (.if_icmp .ge 59, 3) := by decide +kernel
theorem dX9_isTooMany_6 : decode cX9_isTooMany 6 = .ok (.iload_n 2, 1) := by decide +kernel
theorem dX9_isTooMany_7 : decode cX9_isTooMany 7 = .ok (.ifCond .ne 7, 3) := by decide +kernel
theorem dX9_isTooMany_10 : decode cX9_isTooMany 10 = .ok (.iconst 1, 1) := by decide +kernel
theorem dX9_isTooMany_11 : decode cX9_isTooMany 11 = .ok (.goto 4, 3) := by decide +kernel
theorem dX9_isTooMany_14 : decode cX9_isTooMany 14 = .ok (.iconst 0, 1) := by decide +kernel
theorem dX9_isTooMany_15 : decode cX9_isTooMany 15 = .ok (.iload_n 1, 1) := by decide +kernel
theorem dX9_isTooMany_16 : decode cX9_isTooMany 16 = .ok (.bipush 16, 2) := by decide +kernel
theorem dX9_isTooMany_18 : decode cX9_isTooMany 18 = .ok (.if_icmp .ne 7, 3) := by decide +kernel
theorem dX9_isTooMany_21 : decode cX9_isTooMany 21 = .ok (.iconst 1, 1) := by decide +kernel
theorem dX9_isTooMany_22 : decode cX9_isTooMany 22 = .ok (.goto 4, 3) := by decide +kernel
theorem dX9_isTooMany_25 : decode cX9_isTooMany 25 = .ok (.iconst 0, 1) := by decide +kernel
theorem dX9_isTooMany_26 : decode cX9_isTooMany 26 = .ok (.if_icmp .ne 36, 3) := by decide +kernel
theorem dX9_isTooMany_29 : decode cX9_isTooMany 29 = .ok (.iload_n 1, 1) := by decide +kernel
theorem dX9_isTooMany_30 : decode cX9_isTooMany 30 = .ok (.bipush 18, 2) := by decide +kernel
theorem dX9_isTooMany_32 : decode cX9_isTooMany 32 = .ok (.if_icmp .ne 15, 3) := by decide +kernel
theorem dX9_isTooMany_35 : decode cX9_isTooMany 35 = .ok (.aload_n 0, 1) := by decide +kernel
theorem dX9_isTooMany_36 : decode cX9_isTooMany 36 = .ok (.getfield 21, 3) := by decide +kernel
theorem dX9_isTooMany_39 : decode cX9_isTooMany 39 = .ok (.getfield 76, 3) := by decide +kernel
theorem dX9_isTooMany_42 : decode cX9_isTooMany 42 = .ok (.bipush 6, 2) := by decide +kernel
theorem dX9_isTooMany_44 : decode cX9_isTooMany 44 = .ok (.if_icmp .ge 18, 3) := by decide +kernel
theorem dX9_isTooMany_47 : decode cX9_isTooMany 47 = .ok (.iload_n 1, 1) := by decide +kernel
theorem dX9_isTooMany_48 : decode cX9_isTooMany 48 = .ok (.ifCond .ne 18, 3) := by decide +kernel
theorem dX9_isTooMany_51 : decode cX9_isTooMany 51 = .ok (.aload_n 0, 1) := by decide +kernel
theorem dX9_isTooMany_52 : decode cX9_isTooMany 52 = .ok (.getfield 21, 3) := by decide +kernel
theorem dX9_isTooMany_55 : decode cX9_isTooMany 55 = .ok (.getfield 79, 3) := by decide +kernel
theorem dX9_isTooMany_58 : decode cX9_isTooMany 58 = .ok (.iconst 5, 1) := by decide +kernel
theorem dX9_isTooMany_59 : decode cX9_isTooMany 59 = .ok (.if_icmp .lt 7, 3) := by decide +kernel
theorem dX9_isTooMany_62 : decode cX9_isTooMany 62 = .ok (.iconst 1, 1) := by decide +kernel
theorem dX9_isTooMany_63 : decode cX9_isTooMany 63 = .ok (.goto 4, 3) := by decide +kernel
theorem dX9_isTooMany_66 : decode cX9_isTooMany 66 = .ok (.iconst 0, 1) := by decide +kernel
theorem dX9_isTooMany_67 : decode cX9_isTooMany 67 = .ok (.ireturn, 1) := by decide +kernel
theorem dX9_leastOf_0 : decode cX9_leastOf 0 = .ok (.iload_n 0, 1) := by decide +kernel
theorem dX9_leastOf_1 : decode cX9_leastOf 1 = .ok (.bipush 16, 2) := by decide +kernel
theorem dX9_leastOf_3 : decode cX9_leastOf 3 = .ok (.if_icmp .ne 5, 3) := by decide +kernel
theorem dX9_leastOf_6 : decode cX9_leastOf 6 = .ok (.iconst 2, 1) := by decide +kernel
theorem dX9_leastOf_7 : decode cX9_leastOf 7 = .ok (.ireturn, 1) := by decide +kernel
theorem dX9_leastOf_8 : decode cX9_leastOf 8 = .ok (.iload_n 0, 1) := by decide +kernel
theorem dX9_leastOf_9 : decode cX9_leastOf 9 = .ok (.bipush 18, 2) := by decide +kernel
theorem dX9_leastOf_11 : decode cX9_leastOf 11 = .ok (.if_icmp .ne 12, 3) := by decide +kernel
theorem dX9_leastOf_14 : decode cX9_leastOf 14 = .ok (.iload_n 1, 1) := by decide +kernel
theorem dX9_leastOf_15 : decode cX9_leastOf 15 = .ok (.iconst 2, 1) := by decide +kernel
theorem dX9_leastOf_16 : decode cX9_leastOf 16 = .ok (.if_icmp .lt 7, 3) := by decide +kernel
theorem dX9_leastOf_19 : decode cX9_leastOf 19 = .ok (.iconst 1, 1) := by decide +kernel
theorem dX9_leastOf_20 : decode cX9_leastOf 20 = .ok (.goto 4, 3) := by decide +kernel
theorem dX9_leastOf_23 : decode cX9_leastOf 23 = .ok (.iconst 0, 1) := by decide +kernel
theorem dX9_leastOf_24 : decode cX9_leastOf 24 = .ok (.ireturn, 1) := by decide +kernel
theorem dX9_mostOf_0 : decode cX9_mostOf 0 = .ok (.iload_n 1, 1) := by decide +kernel
theorem dX9_mostOf_1 : decode cX9_mostOf 1 = .ok (.bipush 16, 2) := by decide +kernel
theorem dX9_mostOf_3 : decode cX9_mostOf 3 = .ok (.if_icmp .ne 6, 3) := by decide +kernel
theorem dX9_mostOf_6 : decode cX9_mostOf 6 = .ok (.bipush 8, 2) := by decide +kernel
theorem dX9_mostOf_8 : decode cX9_mostOf 8 = .ok (.ireturn, 1) := by decide +kernel
theorem dX9_mostOf_9 : decode cX9_mostOf 9 = .ok (.iload_n 1, 1) := by decide +kernel
theorem dX9_mostOf_10 : decode cX9_mostOf 10 = .ok (.bipush 18, 2) := by decide +kernel
theorem dX9_mostOf_12 : decode cX9_mostOf 12 = .ok (.if_icmp .ne 30, 3) := by decide +kernel
theorem dX9_mostOf_15 : decode cX9_mostOf 15 = .ok (.iload_n 2, 1) := by decide +kernel
theorem dX9_mostOf_16 : decode cX9_mostOf 16 = .ok (.ifCond .le 26, 3) := by decide +kernel
theorem dX9_mostOf_19 : decode cX9_mostOf 19 = .ok (.iload_n 2, 1) := by decide +kernel
theorem dX9_mostOf_20 : decode cX9_mostOf 20 = .ok (.iconst 1, 1) := by decide +kernel
theorem dX9_mostOf_21 : decode cX9_mostOf 21 = .ok (.if_icmp .ne 8, 3) := by decide +kernel
theorem dX9_mostOf_24 : decode cX9_mostOf 24 = .ok (.bipush 7, 2) := by decide +kernel
theorem dX9_mostOf_26 : decode cX9_mostOf 26 = .ok (.goto 15, 3) := by decide +kernel
theorem dX9_mostOf_29 : decode cX9_mostOf 29 = .ok (.iload_n 2, 1) := by decide +kernel
theorem dX9_mostOf_30 : decode cX9_mostOf 30 = .ok (.iconst 2, 1) := by decide +kernel
theorem dX9_mostOf_31 : decode cX9_mostOf 31 = .ok (.if_icmp .ne 8, 3) := by decide +kernel
theorem dX9_mostOf_34 : decode cX9_mostOf 34 = .ok (.bipush 9, 2) := by decide +kernel
theorem dX9_mostOf_36 : decode cX9_mostOf 36 = .ok (.goto 5, 3) := by decide +kernel
theorem dX9_mostOf_39 : decode cX9_mostOf 39 = .ok (.bipush 20, 2) := by decide +kernel
theorem dX9_mostOf_41 : decode cX9_mostOf 41 = .ok (.ireturn, 1) := by decide +kernel
theorem dX9_mostOf_42 : decode cX9_mostOf 42 = .ok (.iload_n 1, 1) := by decide +kernel
theorem dX9_mostOf_43 : decode cX9_mostOf 43 = .ok (.ifCond .ne 21, 3) := by decide +kernel
theorem dX9_mostOf_46 : decode cX9_mostOf 46 = .ok (.iload_n 2, 1) := by decide +kernel
theorem dX9_mostOf_47 : decode cX9_mostOf 47 = .ok (.iconst 1, 1) := by decide +kernel
theorem dX9_mostOf_48 : decode cX9_mostOf 48 = .ok (.if_icmp .le 16, 3) := by decide +kernel
theorem dX9_mostOf_51 : decode cX9_mostOf 51 = .ok (.iload_n 2, 1) := by decide +kernel
theorem dX9_mostOf_52 : decode cX9_mostOf 52 = .ok (.iconst 2, 1) := by decide +kernel
theorem dX9_mostOf_53 : decode cX9_mostOf 53 = .ok (.if_icmp .ne 8, 3) := by decide +kernel
theorem dX9_mostOf_56 : decode cX9_mostOf 56 = .ok (.bipush 7, 2) := by decide +kernel
theorem dX9_mostOf_58 : decode cX9_mostOf 58 = .ok (.goto 5, 3) := by decide +kernel
theorem dX9_mostOf_61 : decode cX9_mostOf 61 = .ok (.bipush 9, 2) := by decide +kernel
theorem dX9_mostOf_63 : decode cX9_mostOf 63 = .ok (.ireturn, 1) := by decide +kernel
theorem dX9_mostOf_64 : decode cX9_mostOf 64 = .ok (.aload_n 0, 1) := by decide +kernel
theorem dX9_mostOf_65 : decode cX9_mostOf 65 = .ok (.getfield 21, 3) := by decide +kernel
theorem dX9_mostOf_68 : decode cX9_mostOf 68 = .ok (.getfield 85, 3) := by decide +kernel
theorem dX9_mostOf_71 : decode cX9_mostOf 71 = .ok (.iconst 1, 1) := by decide +kernel
theorem dX9_mostOf_72 : decode cX9_mostOf 72 = .ok (.isub, 1) := by decide +kernel
theorem dX9_mostOf_73 : decode cX9_mostOf 73 = .ok (.ireturn, 1) := by decide +kernel
set_option maxHeartbeats 4000000 in
set_option maxRecDepth 100000 in
theorem tp_blame_z (l : Launch) (D : va_G) (K : Nat → ClassId) (ad : Nat → Nat) (z : TS) (o : Ok z) (p0 : Nat) (ap0 : at_ 7 p0 = true) (x1 : Int32) (bx1 : iv 0 4 x1) : cV l yX7_blame cX7_blame 2 ({ frames := 0, cells := 0, slots := 0, locals := 0 }) D K ad z [.ref (ad p0), .int x1] (fun u => Ok u ∧ KT z u ∧ (¬ tI u p0 2 = 0)) := by
  refine t_enterV (by decide) (Nat.le_of_ble_eq_true rfl) rfl rfl ?_
  intro p e s m args below meth c A R Q H locs ls E hfr hlo RET G hl
  have E : mE p s m meth c cX7_blame args 2 RX7 D K A := E
  have hl : lv_has ls 2 [(0, .ref (ad p0)), (1, .int x1)] := hl
  refine lv_aload_n E.1 E.2.1 dX7_blame_0 rfl (lv_at hl 0 rfl) ?_
  refine t_get E G 7 2 (at_ro (i := 0) ap0 (by decide) : ro p0 = 7) (C := RX7) (T := TX7) (N := 7) rfl (by decide) (by decide) (by decide) mw_fl_7_19 (fvl_i rfl) dX7_blame_1 ?_
  refine lv_topi (fun v1 e2 => ?_)
  refine lv_if_ne (tgt := 22) E.1 E.2.1 dX7_blame_4 (by decide) (fun c3 => ?_) (fun c3 => ?_)
  · skip
    exact RET G ⟨o, KF.rf, (by rw [e2.symm]; exact c3)⟩ dX7_blame_22
  · skip
    have b4 : iv 0 0 v1 := iv_eq c3 (iv_lit (lo := 0) (hi := 0) 0 (by decide) (by decide))
    refine lv_aload_n E.1 E.2.1 dX7_blame_7 rfl (lv_at hl 0 rfl) ?_
    refine lv_iconst (v := 1) E.1 E.2.1 dX7_blame_8 (by decide) ?_
    refine lv_bipush (v := 8) E.1 E.2.1 dX7_blame_9 (by decide) ?_
    refine lv_aload_n E.1 E.2.1 dX7_blame_11 rfl (lv_at hl 0 rfl) ?_
    refine t_get E G 7 5 (at_ro (i := 0) ap0 (by decide) : ro p0 = 7) (C := RX7) (T := TX7) (N := 7) rfl (by decide) (by decide) (by decide) mw_fl_7_28 (fvl_i rfl) dX7_blame_12 ?_
    refine lv_topi (fun v5 e6 => ?_)
    have b7 : iv 0 400 v5 := by rw [e6]; exact o.i 7 5 (at_ro (i := 0) ap0 (by decide) : ro p0 = 7)
    refine lv_imul E.1 E.2.1 dX7_blame_15 ?_
    refine lv_topi (fun v8 e9 => ?_)
    have b10 : iv 0 3200 v8 := by rw [e9]; exact iv_mulc' b7 8 (by decide) (by decide) (by decide) (by decide) (by decide) (by decide)
    refine lv_iadd E.1 E.2.1 dX7_blame_16 ?_
    refine lv_topi (fun v11 e12 => ?_)
    have b13 : iv 1 3201 v11 := by rw [e12]; exact iv_add (iv_lit (lo := 1) (hi := 1) 1 (by decide) (by decide)) b10 (by decide) (by decide) (by decide) (by decide)
    refine lv_iload_n E.1 E.2.1 dX7_blame_17 rfl (lv_at hl 1 rfl) ?_
    refine lv_iadd E.1 E.2.1 dX7_blame_18 ?_
    refine lv_topi (fun v14 e15 => ?_)
    have b16 : iv 1 3205 v14 := by rw [e15]; exact iv_add b13 bx1 (by decide) (by decide) (by decide) (by decide)
    refine t_puti E G 7 2 (at_ro (i := 0) ap0 (by decide) : ro p0 = 7) (C := RX7) (T := TX7) (N := 7) rfl (by decide) (by decide) (by decide) rfl rfl mw_fl_7_19 rfl dX7_blame_19 (fun H locs G => ?_)
    obtain ⟨zz17, G, oo18, kk19, h20, h21⟩ : ∃ u : TS, mG D A s H locs (wd K ad u) ∧ Ok u ∧ KT z u ∧ tI u p0 5 = v5 ∧ tI u p0 2 = v14 := ⟨_, G, ok_i o 7 (at_ro (i := 0) ap0 (by decide) : ro p0 = 7) (iv_mono b16 (by decide) (by decide)) (by decide), KF.tr KF.rf (KF_i 7 (at_ro (i := 0) ap0 (by decide) : ro p0 = 7) (by decide)), (sI_k e6.symm (by decide)), sI_self⟩
    exact RET G ⟨oo18, kk19, (by rw [h21]; exact (ivne2 b16 (iv_lit (lo := 0) (hi := 0) 0 (by decide) (by decide)) (by decide)))⟩ dX7_blame_22
set_option maxHeartbeats 4000000 in
set_option maxRecDepth 100000 in
theorem tr_many_16 (l : Launch) (D : va_G) (K : Nat → ClassId) (ad : Nat → Nat) (z : TS) (o : Ok z) (x1 : Int32) (bx1 : iv 0 40 x1) : cI l yX9_isTooMany cX9_isTooMany 3 .boolean ({ frames := 0, cells := 0, slots := 0, locals := 0 }) D K ad z [.ref (ad 3), .int 16, .int x1] (fun r u => u = z ∧ iv 0 1 r) := by
  refine t_enterI (by decide) (Nat.le_of_ble_eq_true rfl) rfl rfl ?_
  intro p e s m args below meth c A R Q H locs ls E hfr hlo RET G hl
  have E : mE p s m meth c cX9_isTooMany args 3 RX9 D K A := E
  have hl : lv_has ls 3 [(0, .ref (ad 3)), (1, .int 16), (2, .int x1)] := hl
  refine lv_iload_n E.1 E.2.1 dX9_isTooMany_0 rfl (lv_at hl 2 rfl) ?_
  refine lv_bipush (v := 40) E.1 E.2.1 dX9_isTooMany_1 (by decide) ?_
  refine lv_icmp_ge (tgt := 62) E.1 E.2.1 dX9_isTooMany_3 (by decide) (fun c1 => ?_) (fun c1 => ?_)
  · skip
    have b2 : iv 40 40 x1 := le_r c1 (iv_lit (lo := 40) (hi := 40) 40 (by decide) (by decide)) bx1 (by decide)
    refine lv_iconst (v := 1) E.1 E.2.1 dX9_isTooMany_62 (by decide) ?_
    refine lv_goto (tgt := 67) E.1 E.2.1 dX9_isTooMany_63 (by decide) ?_
    exact RET G ⟨rfl, (iv_mono (iv_lit (lo := 1) (hi := 1) 1 (by decide) (by decide)) (by decide) (by decide))⟩ (by decide) dX9_isTooMany_67
  · skip
    have b3 : iv 0 39 x1 := lt_l (Int32.not_le.mp c1) bx1 (iv_lit (lo := 40) (hi := 40) 40 (by decide) (by decide)) (by decide)
    refine lv_iload_n E.1 E.2.1 dX9_isTooMany_6 rfl (lv_at hl 2 rfl) ?_
    refine lv_if_ne (tgt := 14) E.1 E.2.1 dX9_isTooMany_7 (by decide) (fun c4 => ?_) (fun c4 => ?_)
    · skip
      have b5 : iv 1 39 x1 := ne_lo c4 b3 (by decide) (by decide)
      refine lv_iconst (v := 0) E.1 E.2.1 dX9_isTooMany_14 (by decide) ?_
      refine lv_iload_n E.1 E.2.1 dX9_isTooMany_15 rfl (lv_at hl 1 rfl) ?_
      refine lv_bipush (v := 16) E.1 E.2.1 dX9_isTooMany_16 (by decide) ?_
      refine lv_icmp_ne (tgt := 25) E.1 E.2.1 dX9_isTooMany_18 (by decide) (fun h => absurd (by decide) h) (fun _ => ?_)
      refine lv_iconst (v := 1) E.1 E.2.1 dX9_isTooMany_21 (by decide) ?_
      refine lv_goto (tgt := 26) E.1 E.2.1 dX9_isTooMany_22 (by decide) ?_
      refine lv_icmp_ne (tgt := 62) E.1 E.2.1 dX9_isTooMany_26 (by decide) (fun _ => ?_) (fun h => absurd h (by decide))
      refine lv_iconst (v := 1) E.1 E.2.1 dX9_isTooMany_62 (by decide) ?_
      refine lv_goto (tgt := 67) E.1 E.2.1 dX9_isTooMany_63 (by decide) ?_
      exact RET G ⟨rfl, (iv_mono (iv_lit (lo := 1) (hi := 1) 1 (by decide) (by decide)) (by decide) (by decide))⟩ (by decide) dX9_isTooMany_67
    · skip
      have b6 : iv 0 0 x1 := iv_eq c4 (iv_lit (lo := 0) (hi := 0) 0 (by decide) (by decide))
      refine lv_iconst (v := 1) E.1 E.2.1 dX9_isTooMany_10 (by decide) ?_
      refine lv_goto (tgt := 15) E.1 E.2.1 dX9_isTooMany_11 (by decide) ?_
      refine lv_iload_n E.1 E.2.1 dX9_isTooMany_15 rfl (lv_at hl 1 rfl) ?_
      refine lv_bipush (v := 16) E.1 E.2.1 dX9_isTooMany_16 (by decide) ?_
      refine lv_icmp_ne (tgt := 25) E.1 E.2.1 dX9_isTooMany_18 (by decide) (fun h => absurd (by decide) h) (fun _ => ?_)
      refine lv_iconst (v := 1) E.1 E.2.1 dX9_isTooMany_21 (by decide) ?_
      refine lv_goto (tgt := 26) E.1 E.2.1 dX9_isTooMany_22 (by decide) ?_
      refine lv_icmp_ne (tgt := 62) E.1 E.2.1 dX9_isTooMany_26 (by decide) (fun h => absurd (by decide) h) (fun _ => ?_)
      refine lv_iload_n E.1 E.2.1 dX9_isTooMany_29 rfl (lv_at hl 1 rfl) ?_
      refine lv_bipush (v := 18) E.1 E.2.1 dX9_isTooMany_30 (by decide) ?_
      refine lv_icmp_ne (tgt := 47) E.1 E.2.1 dX9_isTooMany_32 (by decide) (fun _ => ?_) (fun h => absurd h (by decide))
      refine lv_iload_n E.1 E.2.1 dX9_isTooMany_47 rfl (lv_at hl 1 rfl) ?_
      refine lv_if_ne (tgt := 66) E.1 E.2.1 dX9_isTooMany_48 (by decide) (fun _ => ?_) (fun h => absurd h (by decide))
      refine lv_iconst (v := 0) E.1 E.2.1 dX9_isTooMany_66 (by decide) ?_
      exact RET G ⟨rfl, (iv_mono (iv_lit (lo := 0) (hi := 0) 0 (by decide) (by decide)) (by decide) (by decide))⟩ (by decide) dX9_isTooMany_67
set_option maxHeartbeats 4000000 in
set_option maxRecDepth 100000 in
theorem tr_least_16_0 (l : Launch) (D : va_G) (K : Nat → ClassId) (ad : Nat → Nat) (z : TS) (o : Ok z) : cI l yX9_leastOf cX9_leastOf 2 .int ({ frames := 0, cells := 0, slots := 0, locals := 0 }) D K ad z [.int 16, .int 0] (fun r u => u = z ∧ iv 2 2 r) := by
  refine t_enterI (by decide) (Nat.le_of_ble_eq_true rfl) rfl rfl ?_
  intro p e s m args below meth c A R Q H locs ls E hfr hlo RET G hl
  have E : mE p s m meth c cX9_leastOf args 2 RX9 D K A := E
  have hl : lv_has ls 2 [(0, .int 16), (1, .int 0)] := hl
  refine lv_iload_n E.1 E.2.1 dX9_leastOf_0 rfl (lv_at hl 0 rfl) ?_
  refine lv_bipush (v := 16) E.1 E.2.1 dX9_leastOf_1 (by decide) ?_
  refine lv_icmp_ne (tgt := 8) E.1 E.2.1 dX9_leastOf_3 (by decide) (fun h => absurd (by decide) h) (fun _ => ?_)
  refine lv_iconst (v := 2) E.1 E.2.1 dX9_leastOf_6 (by decide) ?_
  exact RET G ⟨rfl, (iv_mono (iv_lit (lo := 2) (hi := 2) 2 (by decide) (by decide)) (by decide) (by decide))⟩ rfl dX9_leastOf_7
set_option maxHeartbeats 4000000 in
set_option maxRecDepth 100000 in
theorem tr_most_16_0 (l : Launch) (D : va_G) (K : Nat → ClassId) (ad : Nat → Nat) (z : TS) (o : Ok z) : cI l yX9_mostOf cX9_mostOf 3 .int ({ frames := 0, cells := 0, slots := 0, locals := 0 }) D K ad z [.ref (ad 3), .int 16, .int 0] (fun r u => u = z ∧ iv 8 8 r) := by
  refine t_enterI (by decide) (Nat.le_of_ble_eq_true rfl) rfl rfl ?_
  intro p e s m args below meth c A R Q H locs ls E hfr hlo RET G hl
  have E : mE p s m meth c cX9_mostOf args 3 RX9 D K A := E
  have hl : lv_has ls 3 [(0, .ref (ad 3)), (1, .int 16), (2, .int 0)] := hl
  refine lv_iload_n E.1 E.2.1 dX9_mostOf_0 rfl (lv_at hl 1 rfl) ?_
  refine lv_bipush (v := 16) E.1 E.2.1 dX9_mostOf_1 (by decide) ?_
  refine lv_icmp_ne (tgt := 9) E.1 E.2.1 dX9_mostOf_3 (by decide) (fun h => absurd (by decide) h) (fun _ => ?_)
  refine lv_bipush (v := 8) E.1 E.2.1 dX9_mostOf_6 (by decide) ?_
  exact RET G ⟨rfl, (iv_mono (iv_lit (lo := 8) (hi := 8) 8 (by decide) (by decide)) (by decide) (by decide))⟩ rfl dX9_mostOf_8
set_option maxHeartbeats 4000000 in
set_option maxRecDepth 100000 in
theorem tr_many_17 (l : Launch) (D : va_G) (K : Nat → ClassId) (ad : Nat → Nat) (z : TS) (o : Ok z) (x1 : Int32) (bx1 : iv 0 40 x1) : cI l yX9_isTooMany cX9_isTooMany 3 .boolean ({ frames := 0, cells := 0, slots := 0, locals := 0 }) D K ad z [.ref (ad 3), .int 17, .int x1] (fun r u => u = z ∧ iv 0 1 r) := by
  refine t_enterI (by decide) (Nat.le_of_ble_eq_true rfl) rfl rfl ?_
  intro p e s m args below meth c A R Q H locs ls E hfr hlo RET G hl
  have E : mE p s m meth c cX9_isTooMany args 3 RX9 D K A := E
  have hl : lv_has ls 3 [(0, .ref (ad 3)), (1, .int 17), (2, .int x1)] := hl
  refine lv_iload_n E.1 E.2.1 dX9_isTooMany_0 rfl (lv_at hl 2 rfl) ?_
  refine lv_bipush (v := 40) E.1 E.2.1 dX9_isTooMany_1 (by decide) ?_
  refine lv_icmp_ge (tgt := 62) E.1 E.2.1 dX9_isTooMany_3 (by decide) (fun c1 => ?_) (fun c1 => ?_)
  · skip
    have b2 : iv 40 40 x1 := le_r c1 (iv_lit (lo := 40) (hi := 40) 40 (by decide) (by decide)) bx1 (by decide)
    refine lv_iconst (v := 1) E.1 E.2.1 dX9_isTooMany_62 (by decide) ?_
    refine lv_goto (tgt := 67) E.1 E.2.1 dX9_isTooMany_63 (by decide) ?_
    exact RET G ⟨rfl, (iv_mono (iv_lit (lo := 1) (hi := 1) 1 (by decide) (by decide)) (by decide) (by decide))⟩ (by decide) dX9_isTooMany_67
  · skip
    have b3 : iv 0 39 x1 := lt_l (Int32.not_le.mp c1) bx1 (iv_lit (lo := 40) (hi := 40) 40 (by decide) (by decide)) (by decide)
    refine lv_iload_n E.1 E.2.1 dX9_isTooMany_6 rfl (lv_at hl 2 rfl) ?_
    refine lv_if_ne (tgt := 14) E.1 E.2.1 dX9_isTooMany_7 (by decide) (fun c4 => ?_) (fun c4 => ?_)
    · skip
      have b5 : iv 1 39 x1 := ne_lo c4 b3 (by decide) (by decide)
      refine lv_iconst (v := 0) E.1 E.2.1 dX9_isTooMany_14 (by decide) ?_
      refine lv_iload_n E.1 E.2.1 dX9_isTooMany_15 rfl (lv_at hl 1 rfl) ?_
      refine lv_bipush (v := 16) E.1 E.2.1 dX9_isTooMany_16 (by decide) ?_
      refine lv_icmp_ne (tgt := 25) E.1 E.2.1 dX9_isTooMany_18 (by decide) (fun _ => ?_) (fun h => absurd h (by decide))
      refine lv_iconst (v := 0) E.1 E.2.1 dX9_isTooMany_25 (by decide) ?_
      refine lv_icmp_ne (tgt := 62) E.1 E.2.1 dX9_isTooMany_26 (by decide) (fun h => absurd (by decide) h) (fun _ => ?_)
      refine lv_iload_n E.1 E.2.1 dX9_isTooMany_29 rfl (lv_at hl 1 rfl) ?_
      refine lv_bipush (v := 18) E.1 E.2.1 dX9_isTooMany_30 (by decide) ?_
      refine lv_icmp_ne (tgt := 47) E.1 E.2.1 dX9_isTooMany_32 (by decide) (fun _ => ?_) (fun h => absurd h (by decide))
      refine lv_iload_n E.1 E.2.1 dX9_isTooMany_47 rfl (lv_at hl 1 rfl) ?_
      refine lv_if_ne (tgt := 66) E.1 E.2.1 dX9_isTooMany_48 (by decide) (fun _ => ?_) (fun h => absurd h (by decide))
      refine lv_iconst (v := 0) E.1 E.2.1 dX9_isTooMany_66 (by decide) ?_
      exact RET G ⟨rfl, (iv_mono (iv_lit (lo := 0) (hi := 0) 0 (by decide) (by decide)) (by decide) (by decide))⟩ (by decide) dX9_isTooMany_67
    · skip
      have b6 : iv 0 0 x1 := iv_eq c4 (iv_lit (lo := 0) (hi := 0) 0 (by decide) (by decide))
      refine lv_iconst (v := 1) E.1 E.2.1 dX9_isTooMany_10 (by decide) ?_
      refine lv_goto (tgt := 15) E.1 E.2.1 dX9_isTooMany_11 (by decide) ?_
      refine lv_iload_n E.1 E.2.1 dX9_isTooMany_15 rfl (lv_at hl 1 rfl) ?_
      refine lv_bipush (v := 16) E.1 E.2.1 dX9_isTooMany_16 (by decide) ?_
      refine lv_icmp_ne (tgt := 25) E.1 E.2.1 dX9_isTooMany_18 (by decide) (fun _ => ?_) (fun h => absurd h (by decide))
      refine lv_iconst (v := 0) E.1 E.2.1 dX9_isTooMany_25 (by decide) ?_
      refine lv_icmp_ne (tgt := 62) E.1 E.2.1 dX9_isTooMany_26 (by decide) (fun _ => ?_) (fun h => absurd h (by decide))
      refine lv_iconst (v := 1) E.1 E.2.1 dX9_isTooMany_62 (by decide) ?_
      refine lv_goto (tgt := 67) E.1 E.2.1 dX9_isTooMany_63 (by decide) ?_
      exact RET G ⟨rfl, (iv_mono (iv_lit (lo := 1) (hi := 1) 1 (by decide) (by decide)) (by decide) (by decide))⟩ (by decide) dX9_isTooMany_67
set_option maxHeartbeats 4000000 in
set_option maxRecDepth 100000 in
theorem tr_least_17_0 (l : Launch) (D : va_G) (K : Nat → ClassId) (ad : Nat → Nat) (z : TS) (o : Ok z) : cI l yX9_leastOf cX9_leastOf 2 .int ({ frames := 0, cells := 0, slots := 0, locals := 0 }) D K ad z [.int 17, .int 0] (fun r u => u = z ∧ iv 0 0 r) := by
  refine t_enterI (by decide) (Nat.le_of_ble_eq_true rfl) rfl rfl ?_
  intro p e s m args below meth c A R Q H locs ls E hfr hlo RET G hl
  have E : mE p s m meth c cX9_leastOf args 2 RX9 D K A := E
  have hl : lv_has ls 2 [(0, .int 17), (1, .int 0)] := hl
  refine lv_iload_n E.1 E.2.1 dX9_leastOf_0 rfl (lv_at hl 0 rfl) ?_
  refine lv_bipush (v := 16) E.1 E.2.1 dX9_leastOf_1 (by decide) ?_
  refine lv_icmp_ne (tgt := 8) E.1 E.2.1 dX9_leastOf_3 (by decide) (fun _ => ?_) (fun h => absurd h (by decide))
  refine lv_iload_n E.1 E.2.1 dX9_leastOf_8 rfl (lv_at hl 0 rfl) ?_
  refine lv_bipush (v := 18) E.1 E.2.1 dX9_leastOf_9 (by decide) ?_
  refine lv_icmp_ne (tgt := 23) E.1 E.2.1 dX9_leastOf_11 (by decide) (fun _ => ?_) (fun h => absurd h (by decide))
  refine lv_iconst (v := 0) E.1 E.2.1 dX9_leastOf_23 (by decide) ?_
  exact RET G ⟨rfl, (iv_mono (iv_lit (lo := 0) (hi := 0) 0 (by decide) (by decide)) (by decide) (by decide))⟩ rfl dX9_leastOf_24
set_option maxHeartbeats 4000000 in
set_option maxRecDepth 100000 in
theorem tr_most_17_0 (l : Launch) (D : va_G) (K : Nat → ClassId) (ad : Nat → Nat) (z : TS) (o : Ok z) : cI l yX9_mostOf cX9_mostOf 3 .int ({ frames := 0, cells := 0, slots := 0, locals := 0 }) D K ad z [.ref (ad 3), .int 17, .int 0] (fun r u => u = z ∧ iv (-1) 7 r) := by
  refine t_enterI (by decide) (Nat.le_of_ble_eq_true rfl) rfl rfl ?_
  intro p e s m args below meth c A R Q H locs ls E hfr hlo RET G hl
  have E : mE p s m meth c cX9_mostOf args 3 RX9 D K A := E
  have hl : lv_has ls 3 [(0, .ref (ad 3)), (1, .int 17), (2, .int 0)] := hl
  refine lv_iload_n E.1 E.2.1 dX9_mostOf_0 rfl (lv_at hl 1 rfl) ?_
  refine lv_bipush (v := 16) E.1 E.2.1 dX9_mostOf_1 (by decide) ?_
  refine lv_icmp_ne (tgt := 9) E.1 E.2.1 dX9_mostOf_3 (by decide) (fun _ => ?_) (fun h => absurd h (by decide))
  refine lv_iload_n E.1 E.2.1 dX9_mostOf_9 rfl (lv_at hl 1 rfl) ?_
  refine lv_bipush (v := 18) E.1 E.2.1 dX9_mostOf_10 (by decide) ?_
  refine lv_icmp_ne (tgt := 42) E.1 E.2.1 dX9_mostOf_12 (by decide) (fun _ => ?_) (fun h => absurd h (by decide))
  refine lv_iload_n E.1 E.2.1 dX9_mostOf_42 rfl (lv_at hl 1 rfl) ?_
  refine lv_if_ne (tgt := 64) E.1 E.2.1 dX9_mostOf_43 (by decide) (fun _ => ?_) (fun h => absurd h (by decide))
  refine lv_aload_n E.1 E.2.1 dX9_mostOf_64 rfl (lv_at hl 0 rfl) ?_
  refine t_get E G 9 1 (rfl : ro 3 = 9) (C := RX9) (T := TX9) (N := 3) rfl (by decide) (by decide) (by decide) mw_fl_9_21 (fvl_d rfl) dX9_mostOf_65 ?_
  obtain ⟨qq1, eqq1⟩ : ∃ q : Nat, q = tP z 3 1 := ⟨_, rfl⟩
  have aqq1 : at_ 8 qq1 = true := by rw [eqq1]; exact o.p 9 1 (rfl : ro 3 = 9) (by decide)
  rw [← eqq1]
  refine t_get E G 8 0 (at_ro (i := 0) aqq1 (by decide) : ro qq1 = 8) (C := RX8) (T := TX8) (N := 10) rfl (by decide) (by decide) (by decide) mw_fl_9_85 (fvl_i rfl) dX9_mostOf_68 ?_
  refine lv_topi (fun v2 e3 => ?_)
  have b4 : iv 0 8 v2 := by rw [e3]; exact o.i 8 0 (at_ro (i := 0) aqq1 (by decide) : ro qq1 = 8)
  refine lv_iconst (v := 1) E.1 E.2.1 dX9_mostOf_71 (by decide) ?_
  refine lv_isub E.1 E.2.1 dX9_mostOf_72 ?_
  refine lv_topi (fun v5 e6 => ?_)
  have b7 : iv (-1) 7 v5 := by rw [e6]; exact iv_sub b4 (iv_lit (lo := 1) (hi := 1) 1 (by decide) (by decide)) (by decide) (by decide) (by decide) (by decide)
  exact RET G ⟨rfl, (iv_mono b7 (by decide) (by decide))⟩ rfl dX9_mostOf_73
set_option maxHeartbeats 4000000 in
set_option maxRecDepth 100000 in
theorem tr_least_17_1 (l : Launch) (D : va_G) (K : Nat → ClassId) (ad : Nat → Nat) (z : TS) (o : Ok z) : cI l yX9_leastOf cX9_leastOf 2 .int ({ frames := 0, cells := 0, slots := 0, locals := 0 }) D K ad z [.int 17, .int 1] (fun r u => u = z ∧ iv 0 0 r) := by
  refine t_enterI (by decide) (Nat.le_of_ble_eq_true rfl) rfl rfl ?_
  intro p e s m args below meth c A R Q H locs ls E hfr hlo RET G hl
  have E : mE p s m meth c cX9_leastOf args 2 RX9 D K A := E
  have hl : lv_has ls 2 [(0, .int 17), (1, .int 1)] := hl
  refine lv_iload_n E.1 E.2.1 dX9_leastOf_0 rfl (lv_at hl 0 rfl) ?_
  refine lv_bipush (v := 16) E.1 E.2.1 dX9_leastOf_1 (by decide) ?_
  refine lv_icmp_ne (tgt := 8) E.1 E.2.1 dX9_leastOf_3 (by decide) (fun _ => ?_) (fun h => absurd h (by decide))
  refine lv_iload_n E.1 E.2.1 dX9_leastOf_8 rfl (lv_at hl 0 rfl) ?_
  refine lv_bipush (v := 18) E.1 E.2.1 dX9_leastOf_9 (by decide) ?_
  refine lv_icmp_ne (tgt := 23) E.1 E.2.1 dX9_leastOf_11 (by decide) (fun _ => ?_) (fun h => absurd h (by decide))
  refine lv_iconst (v := 0) E.1 E.2.1 dX9_leastOf_23 (by decide) ?_
  exact RET G ⟨rfl, (iv_mono (iv_lit (lo := 0) (hi := 0) 0 (by decide) (by decide)) (by decide) (by decide))⟩ rfl dX9_leastOf_24
set_option maxHeartbeats 4000000 in
set_option maxRecDepth 100000 in
theorem tr_most_17_1 (l : Launch) (D : va_G) (K : Nat → ClassId) (ad : Nat → Nat) (z : TS) (o : Ok z) : cI l yX9_mostOf cX9_mostOf 3 .int ({ frames := 0, cells := 0, slots := 0, locals := 0 }) D K ad z [.ref (ad 3), .int 17, .int 1] (fun r u => u = z ∧ iv (-1) 7 r) := by
  refine t_enterI (by decide) (Nat.le_of_ble_eq_true rfl) rfl rfl ?_
  intro p e s m args below meth c A R Q H locs ls E hfr hlo RET G hl
  have E : mE p s m meth c cX9_mostOf args 3 RX9 D K A := E
  have hl : lv_has ls 3 [(0, .ref (ad 3)), (1, .int 17), (2, .int 1)] := hl
  refine lv_iload_n E.1 E.2.1 dX9_mostOf_0 rfl (lv_at hl 1 rfl) ?_
  refine lv_bipush (v := 16) E.1 E.2.1 dX9_mostOf_1 (by decide) ?_
  refine lv_icmp_ne (tgt := 9) E.1 E.2.1 dX9_mostOf_3 (by decide) (fun _ => ?_) (fun h => absurd h (by decide))
  refine lv_iload_n E.1 E.2.1 dX9_mostOf_9 rfl (lv_at hl 1 rfl) ?_
  refine lv_bipush (v := 18) E.1 E.2.1 dX9_mostOf_10 (by decide) ?_
  refine lv_icmp_ne (tgt := 42) E.1 E.2.1 dX9_mostOf_12 (by decide) (fun _ => ?_) (fun h => absurd h (by decide))
  refine lv_iload_n E.1 E.2.1 dX9_mostOf_42 rfl (lv_at hl 1 rfl) ?_
  refine lv_if_ne (tgt := 64) E.1 E.2.1 dX9_mostOf_43 (by decide) (fun _ => ?_) (fun h => absurd h (by decide))
  refine lv_aload_n E.1 E.2.1 dX9_mostOf_64 rfl (lv_at hl 0 rfl) ?_
  refine t_get E G 9 1 (rfl : ro 3 = 9) (C := RX9) (T := TX9) (N := 3) rfl (by decide) (by decide) (by decide) mw_fl_9_21 (fvl_d rfl) dX9_mostOf_65 ?_
  obtain ⟨qq1, eqq1⟩ : ∃ q : Nat, q = tP z 3 1 := ⟨_, rfl⟩
  have aqq1 : at_ 8 qq1 = true := by rw [eqq1]; exact o.p 9 1 (rfl : ro 3 = 9) (by decide)
  rw [← eqq1]
  refine t_get E G 8 0 (at_ro (i := 0) aqq1 (by decide) : ro qq1 = 8) (C := RX8) (T := TX8) (N := 10) rfl (by decide) (by decide) (by decide) mw_fl_9_85 (fvl_i rfl) dX9_mostOf_68 ?_
  refine lv_topi (fun v2 e3 => ?_)
  have b4 : iv 0 8 v2 := by rw [e3]; exact o.i 8 0 (at_ro (i := 0) aqq1 (by decide) : ro qq1 = 8)
  refine lv_iconst (v := 1) E.1 E.2.1 dX9_mostOf_71 (by decide) ?_
  refine lv_isub E.1 E.2.1 dX9_mostOf_72 ?_
  refine lv_topi (fun v5 e6 => ?_)
  have b7 : iv (-1) 7 v5 := by rw [e6]; exact iv_sub b4 (iv_lit (lo := 1) (hi := 1) 1 (by decide) (by decide)) (by decide) (by decide) (by decide) (by decide)
  exact RET G ⟨rfl, (iv_mono b7 (by decide) (by decide))⟩ rfl dX9_mostOf_73
set_option maxHeartbeats 4000000 in
set_option maxRecDepth 100000 in
theorem tr_many_18 (l : Launch) (D : va_G) (K : Nat → ClassId) (ad : Nat → Nat) (z : TS) (o : Ok z) (x1 : Int32) (bx1 : iv 0 40 x1) : cI l yX9_isTooMany cX9_isTooMany 3 .boolean ({ frames := 0, cells := 0, slots := 0, locals := 0 }) D K ad z [.ref (ad 3), .int 18, .int x1] (fun r u => u = z ∧ iv 0 1 r ∧ (r = 0 → iv 0 5 (tI z (tP z 3 1) 2))) := by
  refine t_enterI (by decide) (Nat.le_of_ble_eq_true rfl) rfl rfl ?_
  intro p e s m args below meth c A R Q H locs ls E hfr hlo RET G hl
  have E : mE p s m meth c cX9_isTooMany args 3 RX9 D K A := E
  have hl : lv_has ls 3 [(0, .ref (ad 3)), (1, .int 18), (2, .int x1)] := hl
  refine lv_iload_n E.1 E.2.1 dX9_isTooMany_0 rfl (lv_at hl 2 rfl) ?_
  refine lv_bipush (v := 40) E.1 E.2.1 dX9_isTooMany_1 (by decide) ?_
  refine lv_icmp_ge (tgt := 62) E.1 E.2.1 dX9_isTooMany_3 (by decide) (fun c1 => ?_) (fun c1 => ?_)
  · skip
    have b2 : iv 40 40 x1 := le_r c1 (iv_lit (lo := 40) (hi := 40) 40 (by decide) (by decide)) bx1 (by decide)
    refine lv_iconst (v := 1) E.1 E.2.1 dX9_isTooMany_62 (by decide) ?_
    refine lv_goto (tgt := 67) E.1 E.2.1 dX9_isTooMany_63 (by decide) ?_
    exact RET G ⟨rfl, (iv_mono (iv_lit (lo := 1) (hi := 1) 1 (by decide) (by decide)) (by decide) (by decide)), (fun h => absurd h (by decide))⟩ (by decide) dX9_isTooMany_67
  · skip
    have b3 : iv 0 39 x1 := lt_l (Int32.not_le.mp c1) bx1 (iv_lit (lo := 40) (hi := 40) 40 (by decide) (by decide)) (by decide)
    refine lv_iload_n E.1 E.2.1 dX9_isTooMany_6 rfl (lv_at hl 2 rfl) ?_
    refine lv_if_ne (tgt := 14) E.1 E.2.1 dX9_isTooMany_7 (by decide) (fun c4 => ?_) (fun c4 => ?_)
    · skip
      have b5 : iv 1 39 x1 := ne_lo c4 b3 (by decide) (by decide)
      refine lv_iconst (v := 0) E.1 E.2.1 dX9_isTooMany_14 (by decide) ?_
      refine lv_iload_n E.1 E.2.1 dX9_isTooMany_15 rfl (lv_at hl 1 rfl) ?_
      refine lv_bipush (v := 16) E.1 E.2.1 dX9_isTooMany_16 (by decide) ?_
      refine lv_icmp_ne (tgt := 25) E.1 E.2.1 dX9_isTooMany_18 (by decide) (fun _ => ?_) (fun h => absurd h (by decide))
      refine lv_iconst (v := 0) E.1 E.2.1 dX9_isTooMany_25 (by decide) ?_
      refine lv_icmp_ne (tgt := 62) E.1 E.2.1 dX9_isTooMany_26 (by decide) (fun h => absurd (by decide) h) (fun _ => ?_)
      refine lv_iload_n E.1 E.2.1 dX9_isTooMany_29 rfl (lv_at hl 1 rfl) ?_
      refine lv_bipush (v := 18) E.1 E.2.1 dX9_isTooMany_30 (by decide) ?_
      refine lv_icmp_ne (tgt := 47) E.1 E.2.1 dX9_isTooMany_32 (by decide) (fun h => absurd (by decide) h) (fun _ => ?_)
      refine lv_aload_n E.1 E.2.1 dX9_isTooMany_35 rfl (lv_at hl 0 rfl) ?_
      refine t_get E G 9 1 (rfl : ro 3 = 9) (C := RX9) (T := TX9) (N := 3) rfl (by decide) (by decide) (by decide) mw_fl_9_21 (fvl_d rfl) dX9_isTooMany_36 ?_
      obtain ⟨qq6, eqq6⟩ : ∃ q : Nat, q = tP z 3 1 := ⟨_, rfl⟩
      have aqq6 : at_ 8 qq6 = true := by rw [eqq6]; exact o.p 9 1 (rfl : ro 3 = 9) (by decide)
      rw [← eqq6]
      refine t_get E G 8 2 (at_ro (i := 0) aqq6 (by decide) : ro qq6 = 8) (C := RX8) (T := TX8) (N := 10) rfl (by decide) (by decide) (by decide) mw_fl_9_76 (fvl_i rfl) dX9_isTooMany_39 ?_
      refine lv_topi (fun v7 e8 => ?_)
      have b9 : iv 0 6 v7 := by rw [e8]; exact o.i 8 2 (at_ro (i := 0) aqq6 (by decide) : ro qq6 = 8)
      refine lv_bipush (v := 6) E.1 E.2.1 dX9_isTooMany_42 (by decide) ?_
      refine lv_icmp_ge (tgt := 62) E.1 E.2.1 dX9_isTooMany_44 (by decide) (fun c10 => ?_) (fun c10 => ?_)
      · skip
        have b11 : iv 6 6 v7 := le_r c10 (iv_lit (lo := 6) (hi := 6) 6 (by decide) (by decide)) b9 (by decide)
        refine lv_iconst (v := 1) E.1 E.2.1 dX9_isTooMany_62 (by decide) ?_
        refine lv_goto (tgt := 67) E.1 E.2.1 dX9_isTooMany_63 (by decide) ?_
        exact RET G ⟨rfl, (iv_mono (iv_lit (lo := 1) (hi := 1) 1 (by decide) (by decide)) (by decide) (by decide)), (fun h => absurd h (by decide))⟩ (by decide) dX9_isTooMany_67
      · skip
        have b12 : iv 0 5 v7 := lt_l (Int32.not_le.mp c10) b9 (iv_lit (lo := 6) (hi := 6) 6 (by decide) (by decide)) (by decide)
        refine lv_iload_n E.1 E.2.1 dX9_isTooMany_47 rfl (lv_at hl 1 rfl) ?_
        refine lv_if_ne (tgt := 66) E.1 E.2.1 dX9_isTooMany_48 (by decide) (fun _ => ?_) (fun h => absurd h (by decide))
        refine lv_iconst (v := 0) E.1 E.2.1 dX9_isTooMany_66 (by decide) ?_
        exact RET G ⟨rfl, (iv_mono (iv_lit (lo := 0) (hi := 0) 0 (by decide) (by decide)) (by decide) (by decide)), (fun _ => by rw [eqq6.symm, e8.symm]; exact iv_mono b12 (by decide) (by decide))⟩ (by decide) dX9_isTooMany_67
    · skip
      have b13 : iv 0 0 x1 := iv_eq c4 (iv_lit (lo := 0) (hi := 0) 0 (by decide) (by decide))
      refine lv_iconst (v := 1) E.1 E.2.1 dX9_isTooMany_10 (by decide) ?_
      refine lv_goto (tgt := 15) E.1 E.2.1 dX9_isTooMany_11 (by decide) ?_
      refine lv_iload_n E.1 E.2.1 dX9_isTooMany_15 rfl (lv_at hl 1 rfl) ?_
      refine lv_bipush (v := 16) E.1 E.2.1 dX9_isTooMany_16 (by decide) ?_
      refine lv_icmp_ne (tgt := 25) E.1 E.2.1 dX9_isTooMany_18 (by decide) (fun _ => ?_) (fun h => absurd h (by decide))
      refine lv_iconst (v := 0) E.1 E.2.1 dX9_isTooMany_25 (by decide) ?_
      refine lv_icmp_ne (tgt := 62) E.1 E.2.1 dX9_isTooMany_26 (by decide) (fun _ => ?_) (fun h => absurd h (by decide))
      refine lv_iconst (v := 1) E.1 E.2.1 dX9_isTooMany_62 (by decide) ?_
      refine lv_goto (tgt := 67) E.1 E.2.1 dX9_isTooMany_63 (by decide) ?_
      exact RET G ⟨rfl, (iv_mono (iv_lit (lo := 1) (hi := 1) 1 (by decide) (by decide)) (by decide) (by decide)), (fun h => absurd h (by decide))⟩ (by decide) dX9_isTooMany_67
set_option maxHeartbeats 4000000 in
set_option maxRecDepth 100000 in
theorem tr_least_18_0 (l : Launch) (D : va_G) (K : Nat → ClassId) (ad : Nat → Nat) (z : TS) (o : Ok z) : cI l yX9_leastOf cX9_leastOf 2 .int ({ frames := 0, cells := 0, slots := 0, locals := 0 }) D K ad z [.int 18, .int 0] (fun r u => u = z ∧ iv 0 0 r) := by
  refine t_enterI (by decide) (Nat.le_of_ble_eq_true rfl) rfl rfl ?_
  intro p e s m args below meth c A R Q H locs ls E hfr hlo RET G hl
  have E : mE p s m meth c cX9_leastOf args 2 RX9 D K A := E
  have hl : lv_has ls 2 [(0, .int 18), (1, .int 0)] := hl
  refine lv_iload_n E.1 E.2.1 dX9_leastOf_0 rfl (lv_at hl 0 rfl) ?_
  refine lv_bipush (v := 16) E.1 E.2.1 dX9_leastOf_1 (by decide) ?_
  refine lv_icmp_ne (tgt := 8) E.1 E.2.1 dX9_leastOf_3 (by decide) (fun _ => ?_) (fun h => absurd h (by decide))
  refine lv_iload_n E.1 E.2.1 dX9_leastOf_8 rfl (lv_at hl 0 rfl) ?_
  refine lv_bipush (v := 18) E.1 E.2.1 dX9_leastOf_9 (by decide) ?_
  refine lv_icmp_ne (tgt := 23) E.1 E.2.1 dX9_leastOf_11 (by decide) (fun h => absurd (by decide) h) (fun _ => ?_)
  refine lv_iload_n E.1 E.2.1 dX9_leastOf_14 rfl (lv_at hl 1 rfl) ?_
  refine lv_iconst (v := 2) E.1 E.2.1 dX9_leastOf_15 (by decide) ?_
  refine lv_icmp_lt (tgt := 23) E.1 E.2.1 dX9_leastOf_16 (by decide) (fun _ => ?_) (fun h => absurd (by decide) h)
  refine lv_iconst (v := 0) E.1 E.2.1 dX9_leastOf_23 (by decide) ?_
  exact RET G ⟨rfl, (iv_mono (iv_lit (lo := 0) (hi := 0) 0 (by decide) (by decide)) (by decide) (by decide))⟩ rfl dX9_leastOf_24
set_option maxHeartbeats 4000000 in
set_option maxRecDepth 100000 in
theorem tr_most_18_0 (l : Launch) (D : va_G) (K : Nat → ClassId) (ad : Nat → Nat) (z : TS) (o : Ok z) : cI l yX9_mostOf cX9_mostOf 3 .int ({ frames := 0, cells := 0, slots := 0, locals := 0 }) D K ad z [.ref (ad 3), .int 18, .int 0] (fun r u => u = z ∧ iv (-1) 7 r) := by
  refine t_enterI (by decide) (Nat.le_of_ble_eq_true rfl) rfl rfl ?_
  intro p e s m args below meth c A R Q H locs ls E hfr hlo RET G hl
  have E : mE p s m meth c cX9_mostOf args 3 RX9 D K A := E
  have hl : lv_has ls 3 [(0, .ref (ad 3)), (1, .int 18), (2, .int 0)] := hl
  refine lv_iload_n E.1 E.2.1 dX9_mostOf_0 rfl (lv_at hl 1 rfl) ?_
  refine lv_bipush (v := 16) E.1 E.2.1 dX9_mostOf_1 (by decide) ?_
  refine lv_icmp_ne (tgt := 9) E.1 E.2.1 dX9_mostOf_3 (by decide) (fun _ => ?_) (fun h => absurd h (by decide))
  refine lv_iload_n E.1 E.2.1 dX9_mostOf_9 rfl (lv_at hl 1 rfl) ?_
  refine lv_bipush (v := 18) E.1 E.2.1 dX9_mostOf_10 (by decide) ?_
  refine lv_icmp_ne (tgt := 42) E.1 E.2.1 dX9_mostOf_12 (by decide) (fun h => absurd (by decide) h) (fun _ => ?_)
  refine lv_iload_n E.1 E.2.1 dX9_mostOf_15 rfl (lv_at hl 2 rfl) ?_
  refine lv_if_le (tgt := 42) E.1 E.2.1 dX9_mostOf_16 (by decide) (fun _ => ?_) (fun h => absurd (by decide) h)
  refine lv_iload_n E.1 E.2.1 dX9_mostOf_42 rfl (lv_at hl 1 rfl) ?_
  refine lv_if_ne (tgt := 64) E.1 E.2.1 dX9_mostOf_43 (by decide) (fun _ => ?_) (fun h => absurd h (by decide))
  refine lv_aload_n E.1 E.2.1 dX9_mostOf_64 rfl (lv_at hl 0 rfl) ?_
  refine t_get E G 9 1 (rfl : ro 3 = 9) (C := RX9) (T := TX9) (N := 3) rfl (by decide) (by decide) (by decide) mw_fl_9_21 (fvl_d rfl) dX9_mostOf_65 ?_
  obtain ⟨qq1, eqq1⟩ : ∃ q : Nat, q = tP z 3 1 := ⟨_, rfl⟩
  have aqq1 : at_ 8 qq1 = true := by rw [eqq1]; exact o.p 9 1 (rfl : ro 3 = 9) (by decide)
  rw [← eqq1]
  refine t_get E G 8 0 (at_ro (i := 0) aqq1 (by decide) : ro qq1 = 8) (C := RX8) (T := TX8) (N := 10) rfl (by decide) (by decide) (by decide) mw_fl_9_85 (fvl_i rfl) dX9_mostOf_68 ?_
  refine lv_topi (fun v2 e3 => ?_)
  have b4 : iv 0 8 v2 := by rw [e3]; exact o.i 8 0 (at_ro (i := 0) aqq1 (by decide) : ro qq1 = 8)
  refine lv_iconst (v := 1) E.1 E.2.1 dX9_mostOf_71 (by decide) ?_
  refine lv_isub E.1 E.2.1 dX9_mostOf_72 ?_
  refine lv_topi (fun v5 e6 => ?_)
  have b7 : iv (-1) 7 v5 := by rw [e6]; exact iv_sub b4 (iv_lit (lo := 1) (hi := 1) 1 (by decide) (by decide)) (by decide) (by decide) (by decide) (by decide)
  exact RET G ⟨rfl, (iv_mono b7 (by decide) (by decide))⟩ rfl dX9_mostOf_73
set_option maxHeartbeats 4000000 in
set_option maxRecDepth 100000 in
theorem tr_least_18_1 (l : Launch) (D : va_G) (K : Nat → ClassId) (ad : Nat → Nat) (z : TS) (o : Ok z) : cI l yX9_leastOf cX9_leastOf 2 .int ({ frames := 0, cells := 0, slots := 0, locals := 0 }) D K ad z [.int 18, .int 1] (fun r u => u = z ∧ iv 0 0 r) := by
  refine t_enterI (by decide) (Nat.le_of_ble_eq_true rfl) rfl rfl ?_
  intro p e s m args below meth c A R Q H locs ls E hfr hlo RET G hl
  have E : mE p s m meth c cX9_leastOf args 2 RX9 D K A := E
  have hl : lv_has ls 2 [(0, .int 18), (1, .int 1)] := hl
  refine lv_iload_n E.1 E.2.1 dX9_leastOf_0 rfl (lv_at hl 0 rfl) ?_
  refine lv_bipush (v := 16) E.1 E.2.1 dX9_leastOf_1 (by decide) ?_
  refine lv_icmp_ne (tgt := 8) E.1 E.2.1 dX9_leastOf_3 (by decide) (fun _ => ?_) (fun h => absurd h (by decide))
  refine lv_iload_n E.1 E.2.1 dX9_leastOf_8 rfl (lv_at hl 0 rfl) ?_
  refine lv_bipush (v := 18) E.1 E.2.1 dX9_leastOf_9 (by decide) ?_
  refine lv_icmp_ne (tgt := 23) E.1 E.2.1 dX9_leastOf_11 (by decide) (fun h => absurd (by decide) h) (fun _ => ?_)
  refine lv_iload_n E.1 E.2.1 dX9_leastOf_14 rfl (lv_at hl 1 rfl) ?_
  refine lv_iconst (v := 2) E.1 E.2.1 dX9_leastOf_15 (by decide) ?_
  refine lv_icmp_lt (tgt := 23) E.1 E.2.1 dX9_leastOf_16 (by decide) (fun _ => ?_) (fun h => absurd (by decide) h)
  refine lv_iconst (v := 0) E.1 E.2.1 dX9_leastOf_23 (by decide) ?_
  exact RET G ⟨rfl, (iv_mono (iv_lit (lo := 0) (hi := 0) 0 (by decide) (by decide)) (by decide) (by decide))⟩ rfl dX9_leastOf_24
set_option maxHeartbeats 4000000 in
set_option maxRecDepth 100000 in
theorem tr_most_18_1 (l : Launch) (D : va_G) (K : Nat → ClassId) (ad : Nat → Nat) (z : TS) (o : Ok z) : cI l yX9_mostOf cX9_mostOf 3 .int ({ frames := 0, cells := 0, slots := 0, locals := 0 }) D K ad z [.ref (ad 3), .int 18, .int 1] (fun r u => u = z ∧ iv 7 7 r) := by
  refine t_enterI (by decide) (Nat.le_of_ble_eq_true rfl) rfl rfl ?_
  intro p e s m args below meth c A R Q H locs ls E hfr hlo RET G hl
  have E : mE p s m meth c cX9_mostOf args 3 RX9 D K A := E
  have hl : lv_has ls 3 [(0, .ref (ad 3)), (1, .int 18), (2, .int 1)] := hl
  refine lv_iload_n E.1 E.2.1 dX9_mostOf_0 rfl (lv_at hl 1 rfl) ?_
  refine lv_bipush (v := 16) E.1 E.2.1 dX9_mostOf_1 (by decide) ?_
  refine lv_icmp_ne (tgt := 9) E.1 E.2.1 dX9_mostOf_3 (by decide) (fun _ => ?_) (fun h => absurd h (by decide))
  refine lv_iload_n E.1 E.2.1 dX9_mostOf_9 rfl (lv_at hl 1 rfl) ?_
  refine lv_bipush (v := 18) E.1 E.2.1 dX9_mostOf_10 (by decide) ?_
  refine lv_icmp_ne (tgt := 42) E.1 E.2.1 dX9_mostOf_12 (by decide) (fun h => absurd (by decide) h) (fun _ => ?_)
  refine lv_iload_n E.1 E.2.1 dX9_mostOf_15 rfl (lv_at hl 2 rfl) ?_
  refine lv_if_le (tgt := 42) E.1 E.2.1 dX9_mostOf_16 (by decide) (fun h => absurd h (by decide)) (fun _ => ?_)
  refine lv_iload_n E.1 E.2.1 dX9_mostOf_19 rfl (lv_at hl 2 rfl) ?_
  refine lv_iconst (v := 1) E.1 E.2.1 dX9_mostOf_20 (by decide) ?_
  refine lv_icmp_ne (tgt := 29) E.1 E.2.1 dX9_mostOf_21 (by decide) (fun h => absurd (by decide) h) (fun _ => ?_)
  refine lv_bipush (v := 7) E.1 E.2.1 dX9_mostOf_24 (by decide) ?_
  refine lv_goto (tgt := 41) E.1 E.2.1 dX9_mostOf_26 (by decide) ?_
  exact RET G ⟨rfl, (iv_mono (iv_lit (lo := 7) (hi := 7) 7 (by decide) (by decide)) (by decide) (by decide))⟩ rfl dX9_mostOf_41
set_option maxHeartbeats 4000000 in
set_option maxRecDepth 100000 in
theorem tr_least_18_2 (l : Launch) (D : va_G) (K : Nat → ClassId) (ad : Nat → Nat) (z : TS) (o : Ok z) : cI l yX9_leastOf cX9_leastOf 2 .int ({ frames := 0, cells := 0, slots := 0, locals := 0 }) D K ad z [.int 18, .int 2] (fun r u => u = z ∧ iv 1 1 r) := by
  refine t_enterI (by decide) (Nat.le_of_ble_eq_true rfl) rfl rfl ?_
  intro p e s m args below meth c A R Q H locs ls E hfr hlo RET G hl
  have E : mE p s m meth c cX9_leastOf args 2 RX9 D K A := E
  have hl : lv_has ls 2 [(0, .int 18), (1, .int 2)] := hl
  refine lv_iload_n E.1 E.2.1 dX9_leastOf_0 rfl (lv_at hl 0 rfl) ?_
  refine lv_bipush (v := 16) E.1 E.2.1 dX9_leastOf_1 (by decide) ?_
  refine lv_icmp_ne (tgt := 8) E.1 E.2.1 dX9_leastOf_3 (by decide) (fun _ => ?_) (fun h => absurd h (by decide))
  refine lv_iload_n E.1 E.2.1 dX9_leastOf_8 rfl (lv_at hl 0 rfl) ?_
  refine lv_bipush (v := 18) E.1 E.2.1 dX9_leastOf_9 (by decide) ?_
  refine lv_icmp_ne (tgt := 23) E.1 E.2.1 dX9_leastOf_11 (by decide) (fun h => absurd (by decide) h) (fun _ => ?_)
  refine lv_iload_n E.1 E.2.1 dX9_leastOf_14 rfl (lv_at hl 1 rfl) ?_
  refine lv_iconst (v := 2) E.1 E.2.1 dX9_leastOf_15 (by decide) ?_
  refine lv_icmp_lt (tgt := 23) E.1 E.2.1 dX9_leastOf_16 (by decide) (fun h => absurd h (by decide)) (fun _ => ?_)
  refine lv_iconst (v := 1) E.1 E.2.1 dX9_leastOf_19 (by decide) ?_
  refine lv_goto (tgt := 24) E.1 E.2.1 dX9_leastOf_20 (by decide) ?_
  exact RET G ⟨rfl, (iv_mono (iv_lit (lo := 1) (hi := 1) 1 (by decide) (by decide)) (by decide) (by decide))⟩ rfl dX9_leastOf_24
set_option maxHeartbeats 4000000 in
set_option maxRecDepth 100000 in
theorem tr_most_18_2 (l : Launch) (D : va_G) (K : Nat → ClassId) (ad : Nat → Nat) (z : TS) (o : Ok z) : cI l yX9_mostOf cX9_mostOf 3 .int ({ frames := 0, cells := 0, slots := 0, locals := 0 }) D K ad z [.ref (ad 3), .int 18, .int 2] (fun r u => u = z ∧ iv 9 9 r) := by
  refine t_enterI (by decide) (Nat.le_of_ble_eq_true rfl) rfl rfl ?_
  intro p e s m args below meth c A R Q H locs ls E hfr hlo RET G hl
  have E : mE p s m meth c cX9_mostOf args 3 RX9 D K A := E
  have hl : lv_has ls 3 [(0, .ref (ad 3)), (1, .int 18), (2, .int 2)] := hl
  refine lv_iload_n E.1 E.2.1 dX9_mostOf_0 rfl (lv_at hl 1 rfl) ?_
  refine lv_bipush (v := 16) E.1 E.2.1 dX9_mostOf_1 (by decide) ?_
  refine lv_icmp_ne (tgt := 9) E.1 E.2.1 dX9_mostOf_3 (by decide) (fun _ => ?_) (fun h => absurd h (by decide))
  refine lv_iload_n E.1 E.2.1 dX9_mostOf_9 rfl (lv_at hl 1 rfl) ?_
  refine lv_bipush (v := 18) E.1 E.2.1 dX9_mostOf_10 (by decide) ?_
  refine lv_icmp_ne (tgt := 42) E.1 E.2.1 dX9_mostOf_12 (by decide) (fun h => absurd (by decide) h) (fun _ => ?_)
  refine lv_iload_n E.1 E.2.1 dX9_mostOf_15 rfl (lv_at hl 2 rfl) ?_
  refine lv_if_le (tgt := 42) E.1 E.2.1 dX9_mostOf_16 (by decide) (fun h => absurd h (by decide)) (fun _ => ?_)
  refine lv_iload_n E.1 E.2.1 dX9_mostOf_19 rfl (lv_at hl 2 rfl) ?_
  refine lv_iconst (v := 1) E.1 E.2.1 dX9_mostOf_20 (by decide) ?_
  refine lv_icmp_ne (tgt := 29) E.1 E.2.1 dX9_mostOf_21 (by decide) (fun _ => ?_) (fun h => absurd h (by decide))
  refine lv_iload_n E.1 E.2.1 dX9_mostOf_29 rfl (lv_at hl 2 rfl) ?_
  refine lv_iconst (v := 2) E.1 E.2.1 dX9_mostOf_30 (by decide) ?_
  refine lv_icmp_ne (tgt := 39) E.1 E.2.1 dX9_mostOf_31 (by decide) (fun h => absurd (by decide) h) (fun _ => ?_)
  refine lv_bipush (v := 9) E.1 E.2.1 dX9_mostOf_34 (by decide) ?_
  refine lv_goto (tgt := 41) E.1 E.2.1 dX9_mostOf_36 (by decide) ?_
  exact RET G ⟨rfl, (iv_mono (iv_lit (lo := 9) (hi := 9) 9 (by decide) (by decide)) (by decide) (by decide))⟩ rfl dX9_mostOf_41
set_option maxHeartbeats 4000000 in
set_option maxRecDepth 100000 in
theorem tr_least_18_3 (l : Launch) (D : va_G) (K : Nat → ClassId) (ad : Nat → Nat) (z : TS) (o : Ok z) : cI l yX9_leastOf cX9_leastOf 2 .int ({ frames := 0, cells := 0, slots := 0, locals := 0 }) D K ad z [.int 18, .int 3] (fun r u => u = z ∧ iv 1 1 r) := by
  refine t_enterI (by decide) (Nat.le_of_ble_eq_true rfl) rfl rfl ?_
  intro p e s m args below meth c A R Q H locs ls E hfr hlo RET G hl
  have E : mE p s m meth c cX9_leastOf args 2 RX9 D K A := E
  have hl : lv_has ls 2 [(0, .int 18), (1, .int 3)] := hl
  refine lv_iload_n E.1 E.2.1 dX9_leastOf_0 rfl (lv_at hl 0 rfl) ?_
  refine lv_bipush (v := 16) E.1 E.2.1 dX9_leastOf_1 (by decide) ?_
  refine lv_icmp_ne (tgt := 8) E.1 E.2.1 dX9_leastOf_3 (by decide) (fun _ => ?_) (fun h => absurd h (by decide))
  refine lv_iload_n E.1 E.2.1 dX9_leastOf_8 rfl (lv_at hl 0 rfl) ?_
  refine lv_bipush (v := 18) E.1 E.2.1 dX9_leastOf_9 (by decide) ?_
  refine lv_icmp_ne (tgt := 23) E.1 E.2.1 dX9_leastOf_11 (by decide) (fun h => absurd (by decide) h) (fun _ => ?_)
  refine lv_iload_n E.1 E.2.1 dX9_leastOf_14 rfl (lv_at hl 1 rfl) ?_
  refine lv_iconst (v := 2) E.1 E.2.1 dX9_leastOf_15 (by decide) ?_
  refine lv_icmp_lt (tgt := 23) E.1 E.2.1 dX9_leastOf_16 (by decide) (fun h => absurd h (by decide)) (fun _ => ?_)
  refine lv_iconst (v := 1) E.1 E.2.1 dX9_leastOf_19 (by decide) ?_
  refine lv_goto (tgt := 24) E.1 E.2.1 dX9_leastOf_20 (by decide) ?_
  exact RET G ⟨rfl, (iv_mono (iv_lit (lo := 1) (hi := 1) 1 (by decide) (by decide)) (by decide) (by decide))⟩ rfl dX9_leastOf_24
set_option maxHeartbeats 4000000 in
set_option maxRecDepth 100000 in
theorem tr_most_18_3 (l : Launch) (D : va_G) (K : Nat → ClassId) (ad : Nat → Nat) (z : TS) (o : Ok z) : cI l yX9_mostOf cX9_mostOf 3 .int ({ frames := 0, cells := 0, slots := 0, locals := 0 }) D K ad z [.ref (ad 3), .int 18, .int 3] (fun r u => u = z ∧ iv 20 20 r) := by
  refine t_enterI (by decide) (Nat.le_of_ble_eq_true rfl) rfl rfl ?_
  intro p e s m args below meth c A R Q H locs ls E hfr hlo RET G hl
  have E : mE p s m meth c cX9_mostOf args 3 RX9 D K A := E
  have hl : lv_has ls 3 [(0, .ref (ad 3)), (1, .int 18), (2, .int 3)] := hl
  refine lv_iload_n E.1 E.2.1 dX9_mostOf_0 rfl (lv_at hl 1 rfl) ?_
  refine lv_bipush (v := 16) E.1 E.2.1 dX9_mostOf_1 (by decide) ?_
  refine lv_icmp_ne (tgt := 9) E.1 E.2.1 dX9_mostOf_3 (by decide) (fun _ => ?_) (fun h => absurd h (by decide))
  refine lv_iload_n E.1 E.2.1 dX9_mostOf_9 rfl (lv_at hl 1 rfl) ?_
  refine lv_bipush (v := 18) E.1 E.2.1 dX9_mostOf_10 (by decide) ?_
  refine lv_icmp_ne (tgt := 42) E.1 E.2.1 dX9_mostOf_12 (by decide) (fun h => absurd (by decide) h) (fun _ => ?_)
  refine lv_iload_n E.1 E.2.1 dX9_mostOf_15 rfl (lv_at hl 2 rfl) ?_
  refine lv_if_le (tgt := 42) E.1 E.2.1 dX9_mostOf_16 (by decide) (fun h => absurd h (by decide)) (fun _ => ?_)
  refine lv_iload_n E.1 E.2.1 dX9_mostOf_19 rfl (lv_at hl 2 rfl) ?_
  refine lv_iconst (v := 1) E.1 E.2.1 dX9_mostOf_20 (by decide) ?_
  refine lv_icmp_ne (tgt := 29) E.1 E.2.1 dX9_mostOf_21 (by decide) (fun _ => ?_) (fun h => absurd h (by decide))
  refine lv_iload_n E.1 E.2.1 dX9_mostOf_29 rfl (lv_at hl 2 rfl) ?_
  refine lv_iconst (v := 2) E.1 E.2.1 dX9_mostOf_30 (by decide) ?_
  refine lv_icmp_ne (tgt := 39) E.1 E.2.1 dX9_mostOf_31 (by decide) (fun _ => ?_) (fun h => absurd h (by decide))
  refine lv_bipush (v := 20) E.1 E.2.1 dX9_mostOf_39 (by decide) ?_
  exact RET G ⟨rfl, (iv_mono (iv_lit (lo := 20) (hi := 20) 20 (by decide) (by decide)) (by decide) (by decide))⟩ rfl dX9_mostOf_41
set_option maxHeartbeats 4000000 in
set_option maxRecDepth 100000 in
theorem tr_many_0 (l : Launch) (D : va_G) (K : Nat → ClassId) (ad : Nat → Nat) (z : TS) (o : Ok z) (x1 : Int32) (bx1 : iv 0 40 x1) : cI l yX9_isTooMany cX9_isTooMany 3 .boolean ({ frames := 0, cells := 0, slots := 0, locals := 0 }) D K ad z [.ref (ad 3), .int 0, .int x1] (fun r u => u = z ∧ iv 0 1 r ∧ (r = 0 → iv 0 4 (tI z (tP z 3 1) 3))) := by
  refine t_enterI (by decide) (Nat.le_of_ble_eq_true rfl) rfl rfl ?_
  intro p e s m args below meth c A R Q H locs ls E hfr hlo RET G hl
  have E : mE p s m meth c cX9_isTooMany args 3 RX9 D K A := E
  have hl : lv_has ls 3 [(0, .ref (ad 3)), (1, .int 0), (2, .int x1)] := hl
  refine lv_iload_n E.1 E.2.1 dX9_isTooMany_0 rfl (lv_at hl 2 rfl) ?_
  refine lv_bipush (v := 40) E.1 E.2.1 dX9_isTooMany_1 (by decide) ?_
  refine lv_icmp_ge (tgt := 62) E.1 E.2.1 dX9_isTooMany_3 (by decide) (fun c1 => ?_) (fun c1 => ?_)
  · skip
    have b2 : iv 40 40 x1 := le_r c1 (iv_lit (lo := 40) (hi := 40) 40 (by decide) (by decide)) bx1 (by decide)
    refine lv_iconst (v := 1) E.1 E.2.1 dX9_isTooMany_62 (by decide) ?_
    refine lv_goto (tgt := 67) E.1 E.2.1 dX9_isTooMany_63 (by decide) ?_
    exact RET G ⟨rfl, (iv_mono (iv_lit (lo := 1) (hi := 1) 1 (by decide) (by decide)) (by decide) (by decide)), (fun h => absurd h (by decide))⟩ (by decide) dX9_isTooMany_67
  · skip
    have b3 : iv 0 39 x1 := lt_l (Int32.not_le.mp c1) bx1 (iv_lit (lo := 40) (hi := 40) 40 (by decide) (by decide)) (by decide)
    refine lv_iload_n E.1 E.2.1 dX9_isTooMany_6 rfl (lv_at hl 2 rfl) ?_
    refine lv_if_ne (tgt := 14) E.1 E.2.1 dX9_isTooMany_7 (by decide) (fun c4 => ?_) (fun c4 => ?_)
    · skip
      have b5 : iv 1 39 x1 := ne_lo c4 b3 (by decide) (by decide)
      refine lv_iconst (v := 0) E.1 E.2.1 dX9_isTooMany_14 (by decide) ?_
      refine lv_iload_n E.1 E.2.1 dX9_isTooMany_15 rfl (lv_at hl 1 rfl) ?_
      refine lv_bipush (v := 16) E.1 E.2.1 dX9_isTooMany_16 (by decide) ?_
      refine lv_icmp_ne (tgt := 25) E.1 E.2.1 dX9_isTooMany_18 (by decide) (fun _ => ?_) (fun h => absurd h (by decide))
      refine lv_iconst (v := 0) E.1 E.2.1 dX9_isTooMany_25 (by decide) ?_
      refine lv_icmp_ne (tgt := 62) E.1 E.2.1 dX9_isTooMany_26 (by decide) (fun h => absurd (by decide) h) (fun _ => ?_)
      refine lv_iload_n E.1 E.2.1 dX9_isTooMany_29 rfl (lv_at hl 1 rfl) ?_
      refine lv_bipush (v := 18) E.1 E.2.1 dX9_isTooMany_30 (by decide) ?_
      refine lv_icmp_ne (tgt := 47) E.1 E.2.1 dX9_isTooMany_32 (by decide) (fun _ => ?_) (fun h => absurd h (by decide))
      refine lv_iload_n E.1 E.2.1 dX9_isTooMany_47 rfl (lv_at hl 1 rfl) ?_
      refine lv_if_ne (tgt := 66) E.1 E.2.1 dX9_isTooMany_48 (by decide) (fun h => absurd (by decide) h) (fun _ => ?_)
      refine lv_aload_n E.1 E.2.1 dX9_isTooMany_51 rfl (lv_at hl 0 rfl) ?_
      refine t_get E G 9 1 (rfl : ro 3 = 9) (C := RX9) (T := TX9) (N := 3) rfl (by decide) (by decide) (by decide) mw_fl_9_21 (fvl_d rfl) dX9_isTooMany_52 ?_
      obtain ⟨qq6, eqq6⟩ : ∃ q : Nat, q = tP z 3 1 := ⟨_, rfl⟩
      have aqq6 : at_ 8 qq6 = true := by rw [eqq6]; exact o.p 9 1 (rfl : ro 3 = 9) (by decide)
      rw [← eqq6]
      refine t_get E G 8 3 (at_ro (i := 0) aqq6 (by decide) : ro qq6 = 8) (C := RX8) (T := TX8) (N := 10) rfl (by decide) (by decide) (by decide) mw_fl_9_79 (fvl_i rfl) dX9_isTooMany_55 ?_
      refine lv_topi (fun v7 e8 => ?_)
      have b9 : iv 0 5 v7 := by rw [e8]; exact o.i 8 3 (at_ro (i := 0) aqq6 (by decide) : ro qq6 = 8)
      refine lv_iconst (v := 5) E.1 E.2.1 dX9_isTooMany_58 (by decide) ?_
      refine lv_icmp_lt (tgt := 66) E.1 E.2.1 dX9_isTooMany_59 (by decide) (fun c10 => ?_) (fun c10 => ?_)
      · skip
        have b11 : iv 0 4 v7 := lt_l c10 b9 (iv_lit (lo := 5) (hi := 5) 5 (by decide) (by decide)) (by decide)
        refine lv_iconst (v := 0) E.1 E.2.1 dX9_isTooMany_66 (by decide) ?_
        exact RET G ⟨rfl, (iv_mono (iv_lit (lo := 0) (hi := 0) 0 (by decide) (by decide)) (by decide) (by decide)), (fun _ => by rw [eqq6.symm, e8.symm]; exact iv_mono b11 (by decide) (by decide))⟩ (by decide) dX9_isTooMany_67
      · skip
        have b12 : iv 5 5 v7 := le_r (Int32.not_lt.mp c10) (iv_lit (lo := 5) (hi := 5) 5 (by decide) (by decide)) b9 (by decide)
        refine lv_iconst (v := 1) E.1 E.2.1 dX9_isTooMany_62 (by decide) ?_
        refine lv_goto (tgt := 67) E.1 E.2.1 dX9_isTooMany_63 (by decide) ?_
        exact RET G ⟨rfl, (iv_mono (iv_lit (lo := 1) (hi := 1) 1 (by decide) (by decide)) (by decide) (by decide)), (fun h => absurd h (by decide))⟩ (by decide) dX9_isTooMany_67
    · skip
      have b13 : iv 0 0 x1 := iv_eq c4 (iv_lit (lo := 0) (hi := 0) 0 (by decide) (by decide))
      refine lv_iconst (v := 1) E.1 E.2.1 dX9_isTooMany_10 (by decide) ?_
      refine lv_goto (tgt := 15) E.1 E.2.1 dX9_isTooMany_11 (by decide) ?_
      refine lv_iload_n E.1 E.2.1 dX9_isTooMany_15 rfl (lv_at hl 1 rfl) ?_
      refine lv_bipush (v := 16) E.1 E.2.1 dX9_isTooMany_16 (by decide) ?_
      refine lv_icmp_ne (tgt := 25) E.1 E.2.1 dX9_isTooMany_18 (by decide) (fun _ => ?_) (fun h => absurd h (by decide))
      refine lv_iconst (v := 0) E.1 E.2.1 dX9_isTooMany_25 (by decide) ?_
      refine lv_icmp_ne (tgt := 62) E.1 E.2.1 dX9_isTooMany_26 (by decide) (fun _ => ?_) (fun h => absurd h (by decide))
      refine lv_iconst (v := 1) E.1 E.2.1 dX9_isTooMany_62 (by decide) ?_
      refine lv_goto (tgt := 67) E.1 E.2.1 dX9_isTooMany_63 (by decide) ?_
      exact RET G ⟨rfl, (iv_mono (iv_lit (lo := 1) (hi := 1) 1 (by decide) (by decide)) (by decide) (by decide)), (fun h => absurd h (by decide))⟩ (by decide) dX9_isTooMany_67
set_option maxHeartbeats 4000000 in
set_option maxRecDepth 100000 in
theorem tr_least_0_0 (l : Launch) (D : va_G) (K : Nat → ClassId) (ad : Nat → Nat) (z : TS) (o : Ok z) : cI l yX9_leastOf cX9_leastOf 2 .int ({ frames := 0, cells := 0, slots := 0, locals := 0 }) D K ad z [.int 0, .int 0] (fun r u => u = z ∧ iv 0 0 r) := by
  refine t_enterI (by decide) (Nat.le_of_ble_eq_true rfl) rfl rfl ?_
  intro p e s m args below meth c A R Q H locs ls E hfr hlo RET G hl
  have E : mE p s m meth c cX9_leastOf args 2 RX9 D K A := E
  have hl : lv_has ls 2 [(0, .int 0), (1, .int 0)] := hl
  refine lv_iload_n E.1 E.2.1 dX9_leastOf_0 rfl (lv_at hl 0 rfl) ?_
  refine lv_bipush (v := 16) E.1 E.2.1 dX9_leastOf_1 (by decide) ?_
  refine lv_icmp_ne (tgt := 8) E.1 E.2.1 dX9_leastOf_3 (by decide) (fun _ => ?_) (fun h => absurd h (by decide))
  refine lv_iload_n E.1 E.2.1 dX9_leastOf_8 rfl (lv_at hl 0 rfl) ?_
  refine lv_bipush (v := 18) E.1 E.2.1 dX9_leastOf_9 (by decide) ?_
  refine lv_icmp_ne (tgt := 23) E.1 E.2.1 dX9_leastOf_11 (by decide) (fun _ => ?_) (fun h => absurd h (by decide))
  refine lv_iconst (v := 0) E.1 E.2.1 dX9_leastOf_23 (by decide) ?_
  exact RET G ⟨rfl, (iv_mono (iv_lit (lo := 0) (hi := 0) 0 (by decide) (by decide)) (by decide) (by decide))⟩ rfl dX9_leastOf_24
set_option maxHeartbeats 4000000 in
set_option maxRecDepth 100000 in
theorem tr_most_0_0 (l : Launch) (D : va_G) (K : Nat → ClassId) (ad : Nat → Nat) (z : TS) (o : Ok z) : cI l yX9_mostOf cX9_mostOf 3 .int ({ frames := 0, cells := 0, slots := 0, locals := 0 }) D K ad z [.ref (ad 3), .int 0, .int 0] (fun r u => u = z ∧ iv (-1) 7 r) := by
  refine t_enterI (by decide) (Nat.le_of_ble_eq_true rfl) rfl rfl ?_
  intro p e s m args below meth c A R Q H locs ls E hfr hlo RET G hl
  have E : mE p s m meth c cX9_mostOf args 3 RX9 D K A := E
  have hl : lv_has ls 3 [(0, .ref (ad 3)), (1, .int 0), (2, .int 0)] := hl
  refine lv_iload_n E.1 E.2.1 dX9_mostOf_0 rfl (lv_at hl 1 rfl) ?_
  refine lv_bipush (v := 16) E.1 E.2.1 dX9_mostOf_1 (by decide) ?_
  refine lv_icmp_ne (tgt := 9) E.1 E.2.1 dX9_mostOf_3 (by decide) (fun _ => ?_) (fun h => absurd h (by decide))
  refine lv_iload_n E.1 E.2.1 dX9_mostOf_9 rfl (lv_at hl 1 rfl) ?_
  refine lv_bipush (v := 18) E.1 E.2.1 dX9_mostOf_10 (by decide) ?_
  refine lv_icmp_ne (tgt := 42) E.1 E.2.1 dX9_mostOf_12 (by decide) (fun _ => ?_) (fun h => absurd h (by decide))
  refine lv_iload_n E.1 E.2.1 dX9_mostOf_42 rfl (lv_at hl 1 rfl) ?_
  refine lv_if_ne (tgt := 64) E.1 E.2.1 dX9_mostOf_43 (by decide) (fun h => absurd (by decide) h) (fun _ => ?_)
  refine lv_iload_n E.1 E.2.1 dX9_mostOf_46 rfl (lv_at hl 2 rfl) ?_
  refine lv_iconst (v := 1) E.1 E.2.1 dX9_mostOf_47 (by decide) ?_
  refine lv_icmp_le (tgt := 64) E.1 E.2.1 dX9_mostOf_48 (by decide) (fun _ => ?_) (fun h => absurd (by decide) h)
  refine lv_aload_n E.1 E.2.1 dX9_mostOf_64 rfl (lv_at hl 0 rfl) ?_
  refine t_get E G 9 1 (rfl : ro 3 = 9) (C := RX9) (T := TX9) (N := 3) rfl (by decide) (by decide) (by decide) mw_fl_9_21 (fvl_d rfl) dX9_mostOf_65 ?_
  obtain ⟨qq1, eqq1⟩ : ∃ q : Nat, q = tP z 3 1 := ⟨_, rfl⟩
  have aqq1 : at_ 8 qq1 = true := by rw [eqq1]; exact o.p 9 1 (rfl : ro 3 = 9) (by decide)
  rw [← eqq1]
  refine t_get E G 8 0 (at_ro (i := 0) aqq1 (by decide) : ro qq1 = 8) (C := RX8) (T := TX8) (N := 10) rfl (by decide) (by decide) (by decide) mw_fl_9_85 (fvl_i rfl) dX9_mostOf_68 ?_
  refine lv_topi (fun v2 e3 => ?_)
  have b4 : iv 0 8 v2 := by rw [e3]; exact o.i 8 0 (at_ro (i := 0) aqq1 (by decide) : ro qq1 = 8)
  refine lv_iconst (v := 1) E.1 E.2.1 dX9_mostOf_71 (by decide) ?_
  refine lv_isub E.1 E.2.1 dX9_mostOf_72 ?_
  refine lv_topi (fun v5 e6 => ?_)
  have b7 : iv (-1) 7 v5 := by rw [e6]; exact iv_sub b4 (iv_lit (lo := 1) (hi := 1) 1 (by decide) (by decide)) (by decide) (by decide) (by decide) (by decide)
  exact RET G ⟨rfl, (iv_mono b7 (by decide) (by decide))⟩ rfl dX9_mostOf_73
set_option maxHeartbeats 4000000 in
set_option maxRecDepth 100000 in
theorem tr_least_0_1 (l : Launch) (D : va_G) (K : Nat → ClassId) (ad : Nat → Nat) (z : TS) (o : Ok z) : cI l yX9_leastOf cX9_leastOf 2 .int ({ frames := 0, cells := 0, slots := 0, locals := 0 }) D K ad z [.int 0, .int 1] (fun r u => u = z ∧ iv 0 0 r) := by
  refine t_enterI (by decide) (Nat.le_of_ble_eq_true rfl) rfl rfl ?_
  intro p e s m args below meth c A R Q H locs ls E hfr hlo RET G hl
  have E : mE p s m meth c cX9_leastOf args 2 RX9 D K A := E
  have hl : lv_has ls 2 [(0, .int 0), (1, .int 1)] := hl
  refine lv_iload_n E.1 E.2.1 dX9_leastOf_0 rfl (lv_at hl 0 rfl) ?_
  refine lv_bipush (v := 16) E.1 E.2.1 dX9_leastOf_1 (by decide) ?_
  refine lv_icmp_ne (tgt := 8) E.1 E.2.1 dX9_leastOf_3 (by decide) (fun _ => ?_) (fun h => absurd h (by decide))
  refine lv_iload_n E.1 E.2.1 dX9_leastOf_8 rfl (lv_at hl 0 rfl) ?_
  refine lv_bipush (v := 18) E.1 E.2.1 dX9_leastOf_9 (by decide) ?_
  refine lv_icmp_ne (tgt := 23) E.1 E.2.1 dX9_leastOf_11 (by decide) (fun _ => ?_) (fun h => absurd h (by decide))
  refine lv_iconst (v := 0) E.1 E.2.1 dX9_leastOf_23 (by decide) ?_
  exact RET G ⟨rfl, (iv_mono (iv_lit (lo := 0) (hi := 0) 0 (by decide) (by decide)) (by decide) (by decide))⟩ rfl dX9_leastOf_24
set_option maxHeartbeats 4000000 in
set_option maxRecDepth 100000 in
theorem tr_most_0_1 (l : Launch) (D : va_G) (K : Nat → ClassId) (ad : Nat → Nat) (z : TS) (o : Ok z) : cI l yX9_mostOf cX9_mostOf 3 .int ({ frames := 0, cells := 0, slots := 0, locals := 0 }) D K ad z [.ref (ad 3), .int 0, .int 1] (fun r u => u = z ∧ iv (-1) 7 r) := by
  refine t_enterI (by decide) (Nat.le_of_ble_eq_true rfl) rfl rfl ?_
  intro p e s m args below meth c A R Q H locs ls E hfr hlo RET G hl
  have E : mE p s m meth c cX9_mostOf args 3 RX9 D K A := E
  have hl : lv_has ls 3 [(0, .ref (ad 3)), (1, .int 0), (2, .int 1)] := hl
  refine lv_iload_n E.1 E.2.1 dX9_mostOf_0 rfl (lv_at hl 1 rfl) ?_
  refine lv_bipush (v := 16) E.1 E.2.1 dX9_mostOf_1 (by decide) ?_
  refine lv_icmp_ne (tgt := 9) E.1 E.2.1 dX9_mostOf_3 (by decide) (fun _ => ?_) (fun h => absurd h (by decide))
  refine lv_iload_n E.1 E.2.1 dX9_mostOf_9 rfl (lv_at hl 1 rfl) ?_
  refine lv_bipush (v := 18) E.1 E.2.1 dX9_mostOf_10 (by decide) ?_
  refine lv_icmp_ne (tgt := 42) E.1 E.2.1 dX9_mostOf_12 (by decide) (fun _ => ?_) (fun h => absurd h (by decide))
  refine lv_iload_n E.1 E.2.1 dX9_mostOf_42 rfl (lv_at hl 1 rfl) ?_
  refine lv_if_ne (tgt := 64) E.1 E.2.1 dX9_mostOf_43 (by decide) (fun h => absurd (by decide) h) (fun _ => ?_)
  refine lv_iload_n E.1 E.2.1 dX9_mostOf_46 rfl (lv_at hl 2 rfl) ?_
  refine lv_iconst (v := 1) E.1 E.2.1 dX9_mostOf_47 (by decide) ?_
  refine lv_icmp_le (tgt := 64) E.1 E.2.1 dX9_mostOf_48 (by decide) (fun _ => ?_) (fun h => absurd (by decide) h)
  refine lv_aload_n E.1 E.2.1 dX9_mostOf_64 rfl (lv_at hl 0 rfl) ?_
  refine t_get E G 9 1 (rfl : ro 3 = 9) (C := RX9) (T := TX9) (N := 3) rfl (by decide) (by decide) (by decide) mw_fl_9_21 (fvl_d rfl) dX9_mostOf_65 ?_
  obtain ⟨qq1, eqq1⟩ : ∃ q : Nat, q = tP z 3 1 := ⟨_, rfl⟩
  have aqq1 : at_ 8 qq1 = true := by rw [eqq1]; exact o.p 9 1 (rfl : ro 3 = 9) (by decide)
  rw [← eqq1]
  refine t_get E G 8 0 (at_ro (i := 0) aqq1 (by decide) : ro qq1 = 8) (C := RX8) (T := TX8) (N := 10) rfl (by decide) (by decide) (by decide) mw_fl_9_85 (fvl_i rfl) dX9_mostOf_68 ?_
  refine lv_topi (fun v2 e3 => ?_)
  have b4 : iv 0 8 v2 := by rw [e3]; exact o.i 8 0 (at_ro (i := 0) aqq1 (by decide) : ro qq1 = 8)
  refine lv_iconst (v := 1) E.1 E.2.1 dX9_mostOf_71 (by decide) ?_
  refine lv_isub E.1 E.2.1 dX9_mostOf_72 ?_
  refine lv_topi (fun v5 e6 => ?_)
  have b7 : iv (-1) 7 v5 := by rw [e6]; exact iv_sub b4 (iv_lit (lo := 1) (hi := 1) 1 (by decide) (by decide)) (by decide) (by decide) (by decide) (by decide)
  exact RET G ⟨rfl, (iv_mono b7 (by decide) (by decide))⟩ rfl dX9_mostOf_73
set_option maxHeartbeats 4000000 in
set_option maxRecDepth 100000 in
theorem tr_least_0_2 (l : Launch) (D : va_G) (K : Nat → ClassId) (ad : Nat → Nat) (z : TS) (o : Ok z) : cI l yX9_leastOf cX9_leastOf 2 .int ({ frames := 0, cells := 0, slots := 0, locals := 0 }) D K ad z [.int 0, .int 2] (fun r u => u = z ∧ iv 0 0 r) := by
  refine t_enterI (by decide) (Nat.le_of_ble_eq_true rfl) rfl rfl ?_
  intro p e s m args below meth c A R Q H locs ls E hfr hlo RET G hl
  have E : mE p s m meth c cX9_leastOf args 2 RX9 D K A := E
  have hl : lv_has ls 2 [(0, .int 0), (1, .int 2)] := hl
  refine lv_iload_n E.1 E.2.1 dX9_leastOf_0 rfl (lv_at hl 0 rfl) ?_
  refine lv_bipush (v := 16) E.1 E.2.1 dX9_leastOf_1 (by decide) ?_
  refine lv_icmp_ne (tgt := 8) E.1 E.2.1 dX9_leastOf_3 (by decide) (fun _ => ?_) (fun h => absurd h (by decide))
  refine lv_iload_n E.1 E.2.1 dX9_leastOf_8 rfl (lv_at hl 0 rfl) ?_
  refine lv_bipush (v := 18) E.1 E.2.1 dX9_leastOf_9 (by decide) ?_
  refine lv_icmp_ne (tgt := 23) E.1 E.2.1 dX9_leastOf_11 (by decide) (fun _ => ?_) (fun h => absurd h (by decide))
  refine lv_iconst (v := 0) E.1 E.2.1 dX9_leastOf_23 (by decide) ?_
  exact RET G ⟨rfl, (iv_mono (iv_lit (lo := 0) (hi := 0) 0 (by decide) (by decide)) (by decide) (by decide))⟩ rfl dX9_leastOf_24
set_option maxHeartbeats 4000000 in
set_option maxRecDepth 100000 in
theorem tr_most_0_2 (l : Launch) (D : va_G) (K : Nat → ClassId) (ad : Nat → Nat) (z : TS) (o : Ok z) : cI l yX9_mostOf cX9_mostOf 3 .int ({ frames := 0, cells := 0, slots := 0, locals := 0 }) D K ad z [.ref (ad 3), .int 0, .int 2] (fun r u => u = z ∧ iv 7 7 r) := by
  refine t_enterI (by decide) (Nat.le_of_ble_eq_true rfl) rfl rfl ?_
  intro p e s m args below meth c A R Q H locs ls E hfr hlo RET G hl
  have E : mE p s m meth c cX9_mostOf args 3 RX9 D K A := E
  have hl : lv_has ls 3 [(0, .ref (ad 3)), (1, .int 0), (2, .int 2)] := hl
  refine lv_iload_n E.1 E.2.1 dX9_mostOf_0 rfl (lv_at hl 1 rfl) ?_
  refine lv_bipush (v := 16) E.1 E.2.1 dX9_mostOf_1 (by decide) ?_
  refine lv_icmp_ne (tgt := 9) E.1 E.2.1 dX9_mostOf_3 (by decide) (fun _ => ?_) (fun h => absurd h (by decide))
  refine lv_iload_n E.1 E.2.1 dX9_mostOf_9 rfl (lv_at hl 1 rfl) ?_
  refine lv_bipush (v := 18) E.1 E.2.1 dX9_mostOf_10 (by decide) ?_
  refine lv_icmp_ne (tgt := 42) E.1 E.2.1 dX9_mostOf_12 (by decide) (fun _ => ?_) (fun h => absurd h (by decide))
  refine lv_iload_n E.1 E.2.1 dX9_mostOf_42 rfl (lv_at hl 1 rfl) ?_
  refine lv_if_ne (tgt := 64) E.1 E.2.1 dX9_mostOf_43 (by decide) (fun h => absurd (by decide) h) (fun _ => ?_)
  refine lv_iload_n E.1 E.2.1 dX9_mostOf_46 rfl (lv_at hl 2 rfl) ?_
  refine lv_iconst (v := 1) E.1 E.2.1 dX9_mostOf_47 (by decide) ?_
  refine lv_icmp_le (tgt := 64) E.1 E.2.1 dX9_mostOf_48 (by decide) (fun h => absurd h (by decide)) (fun _ => ?_)
  refine lv_iload_n E.1 E.2.1 dX9_mostOf_51 rfl (lv_at hl 2 rfl) ?_
  refine lv_iconst (v := 2) E.1 E.2.1 dX9_mostOf_52 (by decide) ?_
  refine lv_icmp_ne (tgt := 61) E.1 E.2.1 dX9_mostOf_53 (by decide) (fun h => absurd (by decide) h) (fun _ => ?_)
  refine lv_bipush (v := 7) E.1 E.2.1 dX9_mostOf_56 (by decide) ?_
  refine lv_goto (tgt := 63) E.1 E.2.1 dX9_mostOf_58 (by decide) ?_
  exact RET G ⟨rfl, (iv_mono (iv_lit (lo := 7) (hi := 7) 7 (by decide) (by decide)) (by decide) (by decide))⟩ rfl dX9_mostOf_63
set_option maxHeartbeats 4000000 in
set_option maxRecDepth 100000 in
theorem tr_least_0_3 (l : Launch) (D : va_G) (K : Nat → ClassId) (ad : Nat → Nat) (z : TS) (o : Ok z) : cI l yX9_leastOf cX9_leastOf 2 .int ({ frames := 0, cells := 0, slots := 0, locals := 0 }) D K ad z [.int 0, .int 3] (fun r u => u = z ∧ iv 0 0 r) := by
  refine t_enterI (by decide) (Nat.le_of_ble_eq_true rfl) rfl rfl ?_
  intro p e s m args below meth c A R Q H locs ls E hfr hlo RET G hl
  have E : mE p s m meth c cX9_leastOf args 2 RX9 D K A := E
  have hl : lv_has ls 2 [(0, .int 0), (1, .int 3)] := hl
  refine lv_iload_n E.1 E.2.1 dX9_leastOf_0 rfl (lv_at hl 0 rfl) ?_
  refine lv_bipush (v := 16) E.1 E.2.1 dX9_leastOf_1 (by decide) ?_
  refine lv_icmp_ne (tgt := 8) E.1 E.2.1 dX9_leastOf_3 (by decide) (fun _ => ?_) (fun h => absurd h (by decide))
  refine lv_iload_n E.1 E.2.1 dX9_leastOf_8 rfl (lv_at hl 0 rfl) ?_
  refine lv_bipush (v := 18) E.1 E.2.1 dX9_leastOf_9 (by decide) ?_
  refine lv_icmp_ne (tgt := 23) E.1 E.2.1 dX9_leastOf_11 (by decide) (fun _ => ?_) (fun h => absurd h (by decide))
  refine lv_iconst (v := 0) E.1 E.2.1 dX9_leastOf_23 (by decide) ?_
  exact RET G ⟨rfl, (iv_mono (iv_lit (lo := 0) (hi := 0) 0 (by decide) (by decide)) (by decide) (by decide))⟩ rfl dX9_leastOf_24
set_option maxHeartbeats 4000000 in
set_option maxRecDepth 100000 in
theorem tr_most_0_3 (l : Launch) (D : va_G) (K : Nat → ClassId) (ad : Nat → Nat) (z : TS) (o : Ok z) : cI l yX9_mostOf cX9_mostOf 3 .int ({ frames := 0, cells := 0, slots := 0, locals := 0 }) D K ad z [.ref (ad 3), .int 0, .int 3] (fun r u => u = z ∧ iv 9 9 r) := by
  refine t_enterI (by decide) (Nat.le_of_ble_eq_true rfl) rfl rfl ?_
  intro p e s m args below meth c A R Q H locs ls E hfr hlo RET G hl
  have E : mE p s m meth c cX9_mostOf args 3 RX9 D K A := E
  have hl : lv_has ls 3 [(0, .ref (ad 3)), (1, .int 0), (2, .int 3)] := hl
  refine lv_iload_n E.1 E.2.1 dX9_mostOf_0 rfl (lv_at hl 1 rfl) ?_
  refine lv_bipush (v := 16) E.1 E.2.1 dX9_mostOf_1 (by decide) ?_
  refine lv_icmp_ne (tgt := 9) E.1 E.2.1 dX9_mostOf_3 (by decide) (fun _ => ?_) (fun h => absurd h (by decide))
  refine lv_iload_n E.1 E.2.1 dX9_mostOf_9 rfl (lv_at hl 1 rfl) ?_
  refine lv_bipush (v := 18) E.1 E.2.1 dX9_mostOf_10 (by decide) ?_
  refine lv_icmp_ne (tgt := 42) E.1 E.2.1 dX9_mostOf_12 (by decide) (fun _ => ?_) (fun h => absurd h (by decide))
  refine lv_iload_n E.1 E.2.1 dX9_mostOf_42 rfl (lv_at hl 1 rfl) ?_
  refine lv_if_ne (tgt := 64) E.1 E.2.1 dX9_mostOf_43 (by decide) (fun h => absurd (by decide) h) (fun _ => ?_)
  refine lv_iload_n E.1 E.2.1 dX9_mostOf_46 rfl (lv_at hl 2 rfl) ?_
  refine lv_iconst (v := 1) E.1 E.2.1 dX9_mostOf_47 (by decide) ?_
  refine lv_icmp_le (tgt := 64) E.1 E.2.1 dX9_mostOf_48 (by decide) (fun h => absurd h (by decide)) (fun _ => ?_)
  refine lv_iload_n E.1 E.2.1 dX9_mostOf_51 rfl (lv_at hl 2 rfl) ?_
  refine lv_iconst (v := 2) E.1 E.2.1 dX9_mostOf_52 (by decide) ?_
  refine lv_icmp_ne (tgt := 61) E.1 E.2.1 dX9_mostOf_53 (by decide) (fun _ => ?_) (fun h => absurd h (by decide))
  refine lv_bipush (v := 9) E.1 E.2.1 dX9_mostOf_61 (by decide) ?_
  exact RET G ⟨rfl, (iv_mono (iv_lit (lo := 9) (hi := 9) 9 (by decide) (by decide)) (by decide) (by decide))⟩ rfl dX9_mostOf_63
