theorem mw_fl_6_15 : (Cond.fieldLink RX6 15 "LureTown$State" "walkerHeart" "[I" : Cond) ∈ cw := cw_of (List.mem_append_right _ (List.mem_append_left _ (List.mem_of_getElem? (i := 91) (by decide +kernel)))) (by decide +kernel)
theorem mw_fl_6_18 : (Cond.fieldLink RX6 18 "LureTown$State" "walkerWary" "[I" : Cond) ∈ cw := cw_of (List.mem_append_right _ (List.mem_append_left _ (List.mem_of_getElem? (i := 95) (by decide +kernel)))) (by decide +kernel)
theorem mw_fl_6_21 : (Cond.fieldLink RX6 21 "LureTown$State" "walkerCharge" "[I" : Cond) ∈ cw := cw_of (List.mem_append_right _ (List.mem_append_left _ (List.mem_of_getElem? (i := 99) (by decide +kernel)))) (by decide +kernel)
theorem mw_fl_6_24 : (Cond.fieldLink RX6 24 "LureTown$State" "lureCorner" "[I" : Cond) ∈ cw := cw_of (List.mem_append_right _ (List.mem_append_left _ (List.mem_of_getElem? (i := 102) (by decide +kernel)))) (by decide +kernel)
theorem mw_fl_6_27 : (Cond.fieldLink RX6 27 "LureTown$State" "lureKind" "[I" : Cond) ∈ cw := cw_of (List.mem_append_right _ (List.mem_append_left _ (List.mem_of_getElem? (i := 106) (by decide +kernel)))) (by decide +kernel)
theorem mw_fl_6_30 : (Cond.fieldLink RX6 30 "LureTown$State" "setBits" "I" : Cond) ∈ cw := cw_of (List.mem_append_right _ (List.mem_append_left _ (List.mem_of_getElem? (i := 109) (by decide +kernel)))) (by decide +kernel)
theorem mw_fl_6_34 : (Cond.fieldLink RX6 34 "LureTown$State" "steps" "I" : Cond) ∈ cw := cw_of (List.mem_append_right _ (List.mem_append_left _ (List.mem_of_getElem? (i := 113) (by decide +kernel)))) (by decide +kernel)
theorem mw_fl_6_9 : (Cond.fieldLink RX6 9 "LureTown$State" "walkerCorner" "[I" : Cond) ∈ cw := cw_of (List.mem_append_right _ (List.mem_append_left _ (List.mem_of_getElem? (i := 86) (by decide +kernel)))) (by decide +kernel)
theorem mw_ml_6_37 : (Cond.methodLink RX6 37 arraycopyName : Cond) ∈ cw := cw_of (List.mem_append_right _ (List.mem_append_right _ (List.mem_append_right _ (List.mem_append_left _ (List.mem_of_getElem? (i := 171) (by decide +kernel)))))) (by decide +kernel)
theorem dX6_allCharges_0 : decode cX6_allCharges 0 = .ok (.iconst 0, 1) := by decide +kernel
theorem dX6_allCharges_1 : decode cX6_allCharges 1 = .ok (.istore_n 2, 1) := by decide +kernel
theorem dX6_allCharges_2 : decode cX6_allCharges 2 = .ok (.iconst 0, 1) := by decide +kernel
theorem dX6_allCharges_3 : decode cX6_allCharges 3 = .ok (.istore_n 3, 1) := by decide +kernel
theorem dX6_allCharges_4 : decode cX6_allCharges 4 = .ok (.iload_n 3, 1) := by decide +kernel
theorem dX6_allCharges_5 : decode cX6_allCharges 5 = .ok (.iload_n 1, 1) := by decide +kernel
theorem dX6_allCharges_6 : decode cX6_allCharges 6 = .ok (.if_icmp .ge 18, 3) := by decide +kernel
theorem dX6_allCharges_9 : decode cX6_allCharges 9 = .ok (.iload_n 2, 1) := by decide +kernel
theorem dX6_allCharges_10 : decode cX6_allCharges 10 = .ok (.aload_n 0, 1) := by decide +kernel
theorem dX6_allCharges_11 : decode cX6_allCharges 11 = .ok (.getfield 21, 3) := by decide +kernel
theorem dX6_allCharges_14 : decode cX6_allCharges 14 = .ok (.iload_n 3, 1) := by decide +kernel
theorem dX6_allCharges_15 : decode cX6_allCharges 15 = .ok (.iaload, 1) := by decide +kernel
theorem dX6_allCharges_16 : decode cX6_allCharges 16 = .ok (.iadd, 1) := by decide +kernel
theorem dX6_allCharges_17 : decode cX6_allCharges 17 = .ok (.istore_n 2, 1) := by decide +kernel
theorem dX6_allCharges_18 : decode cX6_allCharges 18 = .ok (.iinc 3 1, 3) := by decide +kernel
theorem dX6_allCharges_21 : decode cX6_allCharges 21 = .ok (.goto (-17), 3) := by decide +kernel
theorem dX6_allCharges_24 : decode cX6_allCharges 24 = .ok (.iload_n 2, 1) := by decide +kernel
theorem dX6_allCharges_25 : decode cX6_allCharges 25 = .ok (.ireturn, 1) := by decide +kernel
theorem dX6_copyFrom_0 : decode cX6_copyFrom 0 = .ok (.aload_n 1, 1) := by decide +kernel
theorem dX6_copyFrom_1 : decode cX6_copyFrom 1 = .ok (.getfield 9, 3) := by decide +kernel
theorem dX6_copyFrom_4 : decode cX6_copyFrom 4 = .ok (.iconst 0, 1) := by decide +kernel
theorem dX6_copyFrom_5 : decode cX6_copyFrom 5 = .ok (.aload_n 0, 1) := by decide +kernel
theorem dX6_copyFrom_6 : decode cX6_copyFrom 6 = .ok (.getfield 9, 3) := by decide +kernel
theorem dX6_copyFrom_9 : decode cX6_copyFrom 9 = .ok (.iconst 0, 1) := by decide +kernel
theorem dX6_copyFrom_10 : decode cX6_copyFrom 10 = .ok (.iconst 5, 1) := by decide +kernel
theorem dX6_copyFrom_11 : decode cX6_copyFrom 11 = .ok (.invokestatic 37, 3) := by decide +kernel
theorem dX6_copyFrom_14 : decode cX6_copyFrom 14 = .ok (.aload_n 1, 1) := by decide +kernel
theorem dX6_copyFrom_15 : decode cX6_copyFrom 15 = .ok (.getfield 15, 3) := by decide +kernel
theorem dX6_copyFrom_18 : decode cX6_copyFrom 18 = .ok (.iconst 0, 1) := by decide +kernel
theorem dX6_copyFrom_19 : decode cX6_copyFrom 19 = .ok (.aload_n 0, 1) := by decide +kernel
theorem dX6_copyFrom_20 : decode cX6_copyFrom 20 = .ok (.getfield 15, 3) := by decide +kernel
theorem dX6_copyFrom_23 : decode cX6_copyFrom 23 = .ok (.iconst 0, 1) := by decide +kernel
theorem dX6_copyFrom_24 : decode cX6_copyFrom 24 = .ok (.iconst 5, 1) := by decide +kernel
theorem dX6_copyFrom_25 : decode cX6_copyFrom 25 = .ok (.invokestatic 37, 3) := by decide +kernel
theorem dX6_copyFrom_28 : decode cX6_copyFrom 28 = .ok (.aload_n 1, 1) := by decide +kernel
theorem dX6_copyFrom_29 : decode cX6_copyFrom 29 = .ok (.getfield 18, 3) := by decide +kernel
theorem dX6_copyFrom_32 : decode cX6_copyFrom 32 = .ok (.iconst 0, 1) := by decide +kernel
theorem dX6_copyFrom_33 : decode cX6_copyFrom 33 = .ok (.aload_n 0, 1) := by decide +kernel
theorem dX6_copyFrom_34 : decode cX6_copyFrom 34 = .ok (.getfield 18, 3) := by decide +kernel
theorem dX6_copyFrom_37 : decode cX6_copyFrom 37 = .ok (.iconst 0, 1) := by decide +kernel
theorem dX6_copyFrom_38 : decode cX6_copyFrom 38 = .ok (.iconst 5, 1) := by decide +kernel
theorem dX6_copyFrom_39 : decode cX6_copyFrom 39 = .ok (.invokestatic 37, 3) := by decide +kernel
theorem dX6_copyFrom_42 : decode cX6_copyFrom 42 = .ok (.aload_n 1, 1) := by decide +kernel
theorem dX6_copyFrom_43 : decode cX6_copyFrom 43 = .ok (.getfield 21, 3) := by decide +kernel
theorem dX6_copyFrom_46 : decode cX6_copyFrom 46 = .ok (.iconst 0, 1) := by decide +kernel
theorem dX6_copyFrom_47 : decode cX6_copyFrom 47 = .ok (.aload_n 0, 1) := by decide +kernel
theorem dX6_copyFrom_48 : decode cX6_copyFrom 48 = .ok (.getfield 21, 3) := by decide +kernel
theorem dX6_copyFrom_51 : decode cX6_copyFrom 51 = .ok (.iconst 0, 1) := by decide +kernel
theorem dX6_copyFrom_52 : decode cX6_copyFrom 52 = .ok (.iconst 5, 1) := by decide +kernel
theorem dX6_copyFrom_53 : decode cX6_copyFrom 53 = .ok (.invokestatic 37, 3) := by decide +kernel
theorem dX6_copyFrom_56 : decode cX6_copyFrom 56 = .ok (.aload_n 1, 1) := by decide +kernel
theorem dX6_copyFrom_57 : decode cX6_copyFrom 57 = .ok (.getfield 24, 3) := by decide +kernel
theorem dX6_copyFrom_60 : decode cX6_copyFrom 60 = .ok (.iconst 0, 1) := by decide +kernel
theorem dX6_copyFrom_61 : decode cX6_copyFrom 61 = .ok (.aload_n 0, 1) := by decide +kernel
theorem dX6_copyFrom_62 : decode cX6_copyFrom 62 = .ok (.getfield 24, 3) := by decide +kernel
theorem dX6_copyFrom_65 : decode cX6_copyFrom 65 = .ok (.iconst 0, 1) := by decide +kernel
theorem dX6_copyFrom_66 : decode cX6_copyFrom 66 = .ok (.bipush 6, 2) := by decide +kernel
theorem dX6_copyFrom_68 : decode cX6_copyFrom 68 = .ok (.invokestatic 37, 3) := by decide +kernel
theorem dX6_copyFrom_71 : decode cX6_copyFrom 71 = .ok (.aload_n 1, 1) := by decide +kernel
theorem dX6_copyFrom_72 : decode cX6_copyFrom 72 = .ok (.getfield 27, 3) := by decide +kernel
theorem dX6_copyFrom_75 : decode cX6_copyFrom 75 = .ok (.iconst 0, 1) := by decide +kernel
theorem dX6_copyFrom_76 : decode cX6_copyFrom 76 = .ok (.aload_n 0, 1) := by decide +kernel
theorem dX6_copyFrom_77 : decode cX6_copyFrom 77 = .ok (.getfield 27, 3) := by decide +kernel
theorem dX6_copyFrom_80 : decode cX6_copyFrom 80 = .ok (.iconst 0, 1) := by decide +kernel
theorem dX6_copyFrom_81 : decode cX6_copyFrom 81 = .ok (.bipush 6, 2) := by decide +kernel
theorem dX6_copyFrom_83 : decode cX6_copyFrom 83 = .ok (.invokestatic 37, 3) := by decide +kernel
theorem dX6_copyFrom_86 : decode cX6_copyFrom 86 = .ok (.aload_n 0, 1) := by decide +kernel
theorem dX6_copyFrom_87 : decode cX6_copyFrom 87 = .ok (.aload_n 1, 1) := by decide +kernel
theorem dX6_copyFrom_88 : decode cX6_copyFrom 88 = .ok (.getfield 30, 3) := by decide +kernel
theorem dX6_copyFrom_91 : decode cX6_copyFrom 91 = .ok (.putfield 30, 3) := by decide +kernel
theorem dX6_copyFrom_94 : decode cX6_copyFrom 94 = .ok (.aload_n 0, 1) := by decide +kernel
theorem dX6_copyFrom_95 : decode cX6_copyFrom 95 = .ok (.aload_n 1, 1) := by decide +kernel
theorem dX6_copyFrom_96 : decode cX6_copyFrom 96 = .ok (.getfield 34, 3) := by decide +kernel
theorem dX6_copyFrom_99 : decode cX6_copyFrom 99 = .ok (.putfield 34, 3) := by decide +kernel
theorem dX6_copyFrom_102 : decode cX6_copyFrom 102 = .ok (.return_, 1) := by decide +kernel
theorem dX6_isSet_0 : decode cX6_isSet 0 = .ok (.aload_n 0, 1) := by decide +kernel
theorem dX6_isSet_1 : decode cX6_isSet 1 = .ok (.getfield 30, 3) := by decide +kernel
theorem dX6_isSet_4 : decode cX6_isSet 4 = .ok (.iload_n 1, 1) := by decide +kernel
theorem dX6_isSet_5 : decode cX6_isSet 5 = .ok (.ishr, 1) := by decide +kernel
theorem dX6_isSet_6 : decode cX6_isSet 6 = .ok (.iconst 1, 1) := by decide +kernel
theorem dX6_isSet_7 : decode cX6_isSet 7 = .ok (.iand, 1) := by decide +kernel
theorem dX6_isSet_8 : decode cX6_isSet 8 = .ok (.ifCond .eq 7, 3) := by decide +kernel
theorem dX6_isSet_11 : decode cX6_isSet 11 = .ok (.iconst 1, 1) := by decide +kernel
theorem dX6_isSet_12 : decode cX6_isSet 12 = .ok (.goto 4, 3) := by decide +kernel
theorem dX6_isSet_15 : decode cX6_isSet 15 = .ok (.iconst 0, 1) := by decide +kernel
theorem dX6_isSet_16 : decode cX6_isSet 16 = .ok (.ireturn, 1) := by decide +kernel
theorem dX6_setAgain_0 : decode cX6_setAgain 0 = .ok (.aload_n 0, 1) := by decide +kernel
theorem dX6_setAgain_1 : decode cX6_setAgain 1 = .ok (.dup, 1) := by decide +kernel
theorem dX6_setAgain_2 : decode cX6_setAgain 2 = .ok (.getfield 30, 3) := by decide +kernel
theorem dX6_setAgain_5 : decode cX6_setAgain 5 = .ok (.iconst 1, 1) := by decide +kernel
theorem dX6_setAgain_6 : decode cX6_setAgain 6 = .ok (.iload_n 1, 1) := by decide +kernel
theorem dX6_setAgain_7 : decode cX6_setAgain 7 = .ok (.ishl, 1) := by decide +kernel
theorem dX6_setAgain_8 : decode cX6_setAgain 8 = .ok (.ior, 1) := by decide +kernel
theorem dX6_setAgain_9 : decode cX6_setAgain 9 = .ok (.putfield 30, 3) := by decide +kernel
theorem dX6_setAgain_12 : decode cX6_setAgain 12 = .ok (.return_, 1) := by decide +kernel
set_option maxHeartbeats 4000000 in
set_option maxRecDepth 100000 in
theorem s_copy (l : Launch) (D : va_G) (K : Nat → ClassId) (ad : Nat → Nat) (z : TS) (o : Ok z) (p0 : Nat) (ap0 : at_ 6 p0 = true) (p1 : Nat) (ap1 : at_ 6 p1 = true) : cV l yX6_copyFrom cX6_copyFrom 2 ({ frames := 1, cells := 0, slots := 0, locals := 26 }) D K ad z [.ref (ad p0), .ref (ad p1)] (fun u => Ok u ∧ KC z u) := by
  refine t_enterV (by decide) (Nat.le_of_ble_eq_true rfl) rfl rfl ?_
  intro p e s m args below meth c A R Q H locs ls E hfr hlo RET G hl
  have E : mE p s m meth c cX6_copyFrom args 2 RX6 D K A := E
  have hl : lv_has ls 2 [(0, .ref (ad p0)), (1, .ref (ad p1))] := hl
  refine lv_aload_n E.1 E.2.1 dX6_copyFrom_0 rfl (lv_at hl 1 rfl) ?_
  refine t_get E G 6 0 (at_ro (i := 0) ap1 (by decide) : ro p1 = 6) (C := RX6) (T := TX6) (N := 8) rfl (by decide) (by decide) (by decide) mw_fl_6_9 (v := .ref (ad (p1 + 1))) (fvl_o (n := 1) rfl) dX6_copyFrom_1 ?_
  refine lv_iconst (v := 0) E.1 E.2.1 dX6_copyFrom_4 (by decide) ?_
  refine lv_aload_n E.1 E.2.1 dX6_copyFrom_5 rfl (lv_at hl 0 rfl) ?_
  refine t_get E G 6 0 (at_ro (i := 0) ap0 (by decide) : ro p0 = 6) (C := RX6) (T := TX6) (N := 8) rfl (by decide) (by decide) (by decide) mw_fl_6_9 (v := .ref (ad (p0 + 1))) (fvl_o (n := 1) rfl) dX6_copyFrom_6 ?_
  refine lv_iconst (v := 0) E.1 E.2.1 dX6_copyFrom_9 (by decide) ?_
  refine lv_iconst (v := 5) E.1 E.2.1 dX6_copyFrom_10 (by decide) ?_
  refine t_copyi E G hl mw_ml_6_37 21 21 (at_ro (i := 1) ap1 (by decide) : ro (p1 + 1) = 21) (at_ro (i := 1) ap0 (by decide) : ro (p0 + 1) = 21) (by decide) (by decide) (by decide) (by decide) rfl rfl (n0 := 5) (n1 := 5) rfl rfl (by decide) (by decide) (by decide) (by decide) (by decide) (Nat.le_trans (by decide) hfr) (Nat.le_of_ble_eq_true rfl) (Nat.le_trans (by decide) hlo) dX6_copyFrom_11 (fun H locs G => ?_)
  obtain ⟨zz1, G, oo2, kk3⟩ : ∃ u : TS, mG D A s H locs (wd K ad u) ∧ Ok u ∧ KC z u := ⟨_, G, ok_cc o 21 21 (at_ro (i := 1) ap1 (by decide) : ro (p1 + 1) = 21) (at_ro (i := 1) ap0 (by decide) : ro (p0 + 1) = 21) (by decide) (by decide) (by decide) (by decide) (by decide), KC.tr KC.rf (KC_r 21 (at_ro (i := 1) ap0 (by decide) : ro (p0 + 1) = 21) (by decide))⟩
  refine lv_aload_n E.1 E.2.1 dX6_copyFrom_14 rfl (lv_at hl 1 rfl) ?_
  refine t_get E G 6 1 (at_ro (i := 0) ap1 (by decide) : ro p1 = 6) (C := RX6) (T := TX6) (N := 8) rfl (by decide) (by decide) (by decide) mw_fl_6_15 (v := .ref (ad (p1 + 2))) (fvl_o (n := 2) rfl) dX6_copyFrom_15 ?_
  refine lv_iconst (v := 0) E.1 E.2.1 dX6_copyFrom_18 (by decide) ?_
  refine lv_aload_n E.1 E.2.1 dX6_copyFrom_19 rfl (lv_at hl 0 rfl) ?_
  refine t_get E G 6 1 (at_ro (i := 0) ap0 (by decide) : ro p0 = 6) (C := RX6) (T := TX6) (N := 8) rfl (by decide) (by decide) (by decide) mw_fl_6_15 (v := .ref (ad (p0 + 2))) (fvl_o (n := 2) rfl) dX6_copyFrom_20 ?_
  refine lv_iconst (v := 0) E.1 E.2.1 dX6_copyFrom_23 (by decide) ?_
  refine lv_iconst (v := 5) E.1 E.2.1 dX6_copyFrom_24 (by decide) ?_
  refine t_copyi E G hl mw_ml_6_37 22 22 (at_ro (i := 2) ap1 (by decide) : ro (p1 + 2) = 22) (at_ro (i := 2) ap0 (by decide) : ro (p0 + 2) = 22) (by decide) (by decide) (by decide) (by decide) rfl rfl (n0 := 5) (n1 := 5) rfl rfl (by decide) (by decide) (by decide) (by decide) (by decide) (Nat.le_trans (by decide) hfr) (Nat.le_of_ble_eq_true rfl) (Nat.le_trans (by decide) hlo) dX6_copyFrom_25 (fun H locs G => ?_)
  obtain ⟨zz4, G, oo5, kk6⟩ : ∃ u : TS, mG D A s H locs (wd K ad u) ∧ Ok u ∧ KC z u := ⟨_, G, ok_cc oo2 22 22 (at_ro (i := 2) ap1 (by decide) : ro (p1 + 2) = 22) (at_ro (i := 2) ap0 (by decide) : ro (p0 + 2) = 22) (by decide) (by decide) (by decide) (by decide) (by decide), KC.tr kk3 (KC_r 22 (at_ro (i := 2) ap0 (by decide) : ro (p0 + 2) = 22) (by decide))⟩
  refine lv_aload_n E.1 E.2.1 dX6_copyFrom_28 rfl (lv_at hl 1 rfl) ?_
  refine t_get E G 6 2 (at_ro (i := 0) ap1 (by decide) : ro p1 = 6) (C := RX6) (T := TX6) (N := 8) rfl (by decide) (by decide) (by decide) mw_fl_6_18 (v := .ref (ad (p1 + 3))) (fvl_o (n := 3) rfl) dX6_copyFrom_29 ?_
  refine lv_iconst (v := 0) E.1 E.2.1 dX6_copyFrom_32 (by decide) ?_
  refine lv_aload_n E.1 E.2.1 dX6_copyFrom_33 rfl (lv_at hl 0 rfl) ?_
  refine t_get E G 6 2 (at_ro (i := 0) ap0 (by decide) : ro p0 = 6) (C := RX6) (T := TX6) (N := 8) rfl (by decide) (by decide) (by decide) mw_fl_6_18 (v := .ref (ad (p0 + 3))) (fvl_o (n := 3) rfl) dX6_copyFrom_34 ?_
  refine lv_iconst (v := 0) E.1 E.2.1 dX6_copyFrom_37 (by decide) ?_
  refine lv_iconst (v := 5) E.1 E.2.1 dX6_copyFrom_38 (by decide) ?_
  refine t_copyi E G hl mw_ml_6_37 22 22 (at_ro (i := 3) ap1 (by decide) : ro (p1 + 3) = 22) (at_ro (i := 3) ap0 (by decide) : ro (p0 + 3) = 22) (by decide) (by decide) (by decide) (by decide) rfl rfl (n0 := 5) (n1 := 5) rfl rfl (by decide) (by decide) (by decide) (by decide) (by decide) (Nat.le_trans (by decide) hfr) (Nat.le_of_ble_eq_true rfl) (Nat.le_trans (by decide) hlo) dX6_copyFrom_39 (fun H locs G => ?_)
  obtain ⟨zz7, G, oo8, kk9⟩ : ∃ u : TS, mG D A s H locs (wd K ad u) ∧ Ok u ∧ KC z u := ⟨_, G, ok_cc oo5 22 22 (at_ro (i := 3) ap1 (by decide) : ro (p1 + 3) = 22) (at_ro (i := 3) ap0 (by decide) : ro (p0 + 3) = 22) (by decide) (by decide) (by decide) (by decide) (by decide), KC.tr kk6 (KC_r 22 (at_ro (i := 3) ap0 (by decide) : ro (p0 + 3) = 22) (by decide))⟩
  refine lv_aload_n E.1 E.2.1 dX6_copyFrom_42 rfl (lv_at hl 1 rfl) ?_
  refine t_get E G 6 3 (at_ro (i := 0) ap1 (by decide) : ro p1 = 6) (C := RX6) (T := TX6) (N := 8) rfl (by decide) (by decide) (by decide) mw_fl_6_21 (v := .ref (ad (p1 + 4))) (fvl_o (n := 4) rfl) dX6_copyFrom_43 ?_
  refine lv_iconst (v := 0) E.1 E.2.1 dX6_copyFrom_46 (by decide) ?_
  refine lv_aload_n E.1 E.2.1 dX6_copyFrom_47 rfl (lv_at hl 0 rfl) ?_
  refine t_get E G 6 3 (at_ro (i := 0) ap0 (by decide) : ro p0 = 6) (C := RX6) (T := TX6) (N := 8) rfl (by decide) (by decide) (by decide) mw_fl_6_21 (v := .ref (ad (p0 + 4))) (fvl_o (n := 4) rfl) dX6_copyFrom_48 ?_
  refine lv_iconst (v := 0) E.1 E.2.1 dX6_copyFrom_51 (by decide) ?_
  refine lv_iconst (v := 5) E.1 E.2.1 dX6_copyFrom_52 (by decide) ?_
  refine t_copyi E G hl mw_ml_6_37 22 22 (at_ro (i := 4) ap1 (by decide) : ro (p1 + 4) = 22) (at_ro (i := 4) ap0 (by decide) : ro (p0 + 4) = 22) (by decide) (by decide) (by decide) (by decide) rfl rfl (n0 := 5) (n1 := 5) rfl rfl (by decide) (by decide) (by decide) (by decide) (by decide) (Nat.le_trans (by decide) hfr) (Nat.le_of_ble_eq_true rfl) (Nat.le_trans (by decide) hlo) dX6_copyFrom_53 (fun H locs G => ?_)
  obtain ⟨zz10, G, oo11, kk12⟩ : ∃ u : TS, mG D A s H locs (wd K ad u) ∧ Ok u ∧ KC z u := ⟨_, G, ok_cc oo8 22 22 (at_ro (i := 4) ap1 (by decide) : ro (p1 + 4) = 22) (at_ro (i := 4) ap0 (by decide) : ro (p0 + 4) = 22) (by decide) (by decide) (by decide) (by decide) (by decide), KC.tr kk9 (KC_r 22 (at_ro (i := 4) ap0 (by decide) : ro (p0 + 4) = 22) (by decide))⟩
  refine lv_aload_n E.1 E.2.1 dX6_copyFrom_56 rfl (lv_at hl 1 rfl) ?_
  refine t_get E G 6 4 (at_ro (i := 0) ap1 (by decide) : ro p1 = 6) (C := RX6) (T := TX6) (N := 8) rfl (by decide) (by decide) (by decide) mw_fl_6_24 (v := .ref (ad (p1 + 5))) (fvl_o (n := 5) rfl) dX6_copyFrom_57 ?_
  refine lv_iconst (v := 0) E.1 E.2.1 dX6_copyFrom_60 (by decide) ?_
  refine lv_aload_n E.1 E.2.1 dX6_copyFrom_61 rfl (lv_at hl 0 rfl) ?_
  refine t_get E G 6 4 (at_ro (i := 0) ap0 (by decide) : ro p0 = 6) (C := RX6) (T := TX6) (N := 8) rfl (by decide) (by decide) (by decide) mw_fl_6_24 (v := .ref (ad (p0 + 5))) (fvl_o (n := 5) rfl) dX6_copyFrom_62 ?_
  refine lv_iconst (v := 0) E.1 E.2.1 dX6_copyFrom_65 (by decide) ?_
  refine lv_bipush (v := 6) E.1 E.2.1 dX6_copyFrom_66 (by decide) ?_
  refine t_copyi E G hl mw_ml_6_37 23 23 (at_ro (i := 5) ap1 (by decide) : ro (p1 + 5) = 23) (at_ro (i := 5) ap0 (by decide) : ro (p0 + 5) = 23) (by decide) (by decide) (by decide) (by decide) rfl rfl (n0 := 6) (n1 := 6) rfl rfl (by decide) (by decide) (by decide) (by decide) (by decide) (Nat.le_trans (by decide) hfr) (Nat.le_of_ble_eq_true rfl) (Nat.le_trans (by decide) hlo) dX6_copyFrom_68 (fun H locs G => ?_)
  obtain ⟨zz13, G, oo14, kk15⟩ : ∃ u : TS, mG D A s H locs (wd K ad u) ∧ Ok u ∧ KC z u := ⟨_, G, ok_cc oo11 23 23 (at_ro (i := 5) ap1 (by decide) : ro (p1 + 5) = 23) (at_ro (i := 5) ap0 (by decide) : ro (p0 + 5) = 23) (by decide) (by decide) (by decide) (by decide) (by decide), KC.tr kk12 (KC_r 23 (at_ro (i := 5) ap0 (by decide) : ro (p0 + 5) = 23) (by decide))⟩
  refine lv_aload_n E.1 E.2.1 dX6_copyFrom_71 rfl (lv_at hl 1 rfl) ?_
  refine t_get E G 6 5 (at_ro (i := 0) ap1 (by decide) : ro p1 = 6) (C := RX6) (T := TX6) (N := 8) rfl (by decide) (by decide) (by decide) mw_fl_6_27 (v := .ref (ad (p1 + 6))) (fvl_o (n := 6) rfl) dX6_copyFrom_72 ?_
  refine lv_iconst (v := 0) E.1 E.2.1 dX6_copyFrom_75 (by decide) ?_
  refine lv_aload_n E.1 E.2.1 dX6_copyFrom_76 rfl (lv_at hl 0 rfl) ?_
  refine t_get E G 6 5 (at_ro (i := 0) ap0 (by decide) : ro p0 = 6) (C := RX6) (T := TX6) (N := 8) rfl (by decide) (by decide) (by decide) mw_fl_6_27 (v := .ref (ad (p0 + 6))) (fvl_o (n := 6) rfl) dX6_copyFrom_77 ?_
  refine lv_iconst (v := 0) E.1 E.2.1 dX6_copyFrom_80 (by decide) ?_
  refine lv_bipush (v := 6) E.1 E.2.1 dX6_copyFrom_81 (by decide) ?_
  refine t_copyi E G hl mw_ml_6_37 23 23 (at_ro (i := 6) ap1 (by decide) : ro (p1 + 6) = 23) (at_ro (i := 6) ap0 (by decide) : ro (p0 + 6) = 23) (by decide) (by decide) (by decide) (by decide) rfl rfl (n0 := 6) (n1 := 6) rfl rfl (by decide) (by decide) (by decide) (by decide) (by decide) (Nat.le_trans (by decide) hfr) (Nat.le_of_ble_eq_true rfl) (Nat.le_trans (by decide) hlo) dX6_copyFrom_83 (fun H locs G => ?_)
  obtain ⟨zz16, G, oo17, kk18⟩ : ∃ u : TS, mG D A s H locs (wd K ad u) ∧ Ok u ∧ KC z u := ⟨_, G, ok_cc oo14 23 23 (at_ro (i := 6) ap1 (by decide) : ro (p1 + 6) = 23) (at_ro (i := 6) ap0 (by decide) : ro (p0 + 6) = 23) (by decide) (by decide) (by decide) (by decide) (by decide), KC.tr kk15 (KC_r 23 (at_ro (i := 6) ap0 (by decide) : ro (p0 + 6) = 23) (by decide))⟩
  refine lv_aload_n E.1 E.2.1 dX6_copyFrom_86 rfl (lv_at hl 0 rfl) ?_
  refine lv_aload_n E.1 E.2.1 dX6_copyFrom_87 rfl (lv_at hl 1 rfl) ?_
  refine t_get E G 6 6 (at_ro (i := 0) ap1 (by decide) : ro p1 = 6) (C := RX6) (T := TX6) (N := 8) rfl (by decide) (by decide) (by decide) mw_fl_6_30 (fvl_i rfl) dX6_copyFrom_88 ?_
  refine lv_topi (fun v19 e20 => ?_)
  refine t_puti E G 6 6 (at_ro (i := 0) ap0 (by decide) : ro p0 = 6) (C := RX6) (T := TX6) (N := 8) rfl (by decide) (by decide) (by decide) rfl rfl mw_fl_6_30 rfl dX6_copyFrom_91 (fun H locs G => ?_)
  obtain ⟨zz21, G, oo22, kk23, h24⟩ : ∃ u : TS, mG D A s H locs (wd K ad u) ∧ Ok u ∧ KC z u ∧ tI u p0 6 = v19 := ⟨_, G, ok_i oo17 6 (at_ro (i := 0) ap0 (by decide) : ro p0 = 6) (iv_mono (iv_full v19) (by decide) (by decide)) (by decide), KC.tr kk18 (KC_i 6 (at_ro (i := 0) ap0 (by decide) : ro p0 = 6) (by decide)), sI_self⟩
  refine lv_aload_n E.1 E.2.1 dX6_copyFrom_94 rfl (lv_at hl 0 rfl) ?_
  refine lv_aload_n E.1 E.2.1 dX6_copyFrom_95 rfl (lv_at hl 1 rfl) ?_
  refine t_get E G 6 7 (at_ro (i := 0) ap1 (by decide) : ro p1 = 6) (C := RX6) (T := TX6) (N := 8) rfl (by decide) (by decide) (by decide) mw_fl_6_34 (fvl_i rfl) dX6_copyFrom_96 ?_
  refine lv_topi (fun v25 e26 => ?_)
  refine t_puti E G 6 7 (at_ro (i := 0) ap0 (by decide) : ro p0 = 6) (C := RX6) (T := TX6) (N := 8) rfl (by decide) (by decide) (by decide) rfl rfl mw_fl_6_34 rfl dX6_copyFrom_99 (fun H locs G => ?_)
  obtain ⟨zz27, G, oo28, kk29, h30, h31⟩ : ∃ u : TS, mG D A s H locs (wd K ad u) ∧ Ok u ∧ KC z u ∧ tI u p0 6 = v19 ∧ tI u p0 7 = v25 := ⟨_, G, ok_i oo22 6 (at_ro (i := 0) ap0 (by decide) : ro p0 = 6) (iv_mono (iv_full v25) (by decide) (by decide)) (by decide), KC.tr kk23 (KC_i 6 (at_ro (i := 0) ap0 (by decide) : ro p0 = 6) (by decide)), (sI_k h24 (by decide)), sI_self⟩
  exact RET G ⟨oo28, kk29⟩ dX6_copyFrom_102
set_option maxHeartbeats 4000000 in
set_option maxRecDepth 100000 in
theorem s_isSet (l : Launch) (D : va_G) (K : Nat → ClassId) (ad : Nat → Nat) (z : TS) (o : Ok z) (p0 : Nat) (ap0 : at_ 6 p0 = true) (x1 : Int32) : cI l yX6_isSet cX6_isSet 2 .boolean ({ frames := 0, cells := 0, slots := 0, locals := 0 }) D K ad z [.ref (ad p0), .int x1] (fun r u => u = z ∧ iv 0 1 r) := by
  refine t_enterI (by decide) (Nat.le_of_ble_eq_true rfl) rfl rfl ?_
  intro p e s m args below meth c A R Q H locs ls E hfr hlo RET G hl
  have E : mE p s m meth c cX6_isSet args 2 RX6 D K A := E
  have hl : lv_has ls 2 [(0, .ref (ad p0)), (1, .int x1)] := hl
  refine lv_aload_n E.1 E.2.1 dX6_isSet_0 rfl (lv_at hl 0 rfl) ?_
  refine t_get E G 6 6 (at_ro (i := 0) ap0 (by decide) : ro p0 = 6) (C := RX6) (T := TX6) (N := 8) rfl (by decide) (by decide) (by decide) mw_fl_6_30 (fvl_i rfl) dX6_isSet_1 ?_
  refine lv_topi (fun v1 e2 => ?_)
  refine lv_iload_n E.1 E.2.1 dX6_isSet_4 rfl (lv_at hl 1 rfl) ?_
  refine lv_ishr E.1 E.2.1 dX6_isSet_5 ?_
  refine lv_topi (fun v3 e4 => ?_)
  refine lv_iconst (v := 1) E.1 E.2.1 dX6_isSet_6 (by decide) ?_
  refine lv_iand E.1 E.2.1 dX6_isSet_7 ?_
  refine lv_topi (fun v5 e6 => ?_)
  have b7 : iv 0 1 v5 := by rw [e6]; exact iv_and (iv_lit (lo := 1) (hi := 1) 1 (by decide) (by decide)) (by decide)
  refine lv_if_eq (tgt := 15) E.1 E.2.1 dX6_isSet_8 (by decide) (fun c8 => ?_) (fun c8 => ?_)
  · skip
    have b9 : iv 0 0 v5 := iv_eq c8 (iv_lit (lo := 0) (hi := 0) 0 (by decide) (by decide))
    refine lv_iconst (v := 0) E.1 E.2.1 dX6_isSet_15 (by decide) ?_
    exact RET G ⟨rfl, (iv_mono (iv_lit (lo := 0) (hi := 0) 0 (by decide) (by decide)) (by decide) (by decide))⟩ (by decide) dX6_isSet_16
  · skip
    have b10 : iv 1 1 v5 := ne_lo c8 b7 (by decide) (by decide)
    refine lv_iconst (v := 1) E.1 E.2.1 dX6_isSet_11 (by decide) ?_
    refine lv_goto (tgt := 16) E.1 E.2.1 dX6_isSet_12 (by decide) ?_
    exact RET G ⟨rfl, (iv_mono (iv_lit (lo := 1) (hi := 1) 1 (by decide) (by decide)) (by decide) (by decide))⟩ (by decide) dX6_isSet_16
set_option maxHeartbeats 4000000 in
set_option maxRecDepth 100000 in
theorem s_setAgain (l : Launch) (D : va_G) (K : Nat → ClassId) (ad : Nat → Nat) (z : TS) (o : Ok z) (p0 : Nat) (ap0 : at_ 6 p0 = true) (x1 : Int32) : cV l yX6_setAgain cX6_setAgain 2 ({ frames := 0, cells := 0, slots := 0, locals := 0 }) D K ad z [.ref (ad p0), .int x1] (fun u => Ok u ∧ KS z u) := by
  refine t_enterV (by decide) (Nat.le_of_ble_eq_true rfl) rfl rfl ?_
  intro p e s m args below meth c A R Q H locs ls E hfr hlo RET G hl
  have E : mE p s m meth c cX6_setAgain args 2 RX6 D K A := E
  have hl : lv_has ls 2 [(0, .ref (ad p0)), (1, .int x1)] := hl
  refine lv_aload_n E.1 E.2.1 dX6_setAgain_0 rfl (lv_at hl 0 rfl) ?_
  refine lv_dup E.1 E.2.1 dX6_setAgain_1 rfl ?_
  refine t_get E G 6 6 (at_ro (i := 0) ap0 (by decide) : ro p0 = 6) (C := RX6) (T := TX6) (N := 8) rfl (by decide) (by decide) (by decide) mw_fl_6_30 (fvl_i rfl) dX6_setAgain_2 ?_
  refine lv_topi (fun v1 e2 => ?_)
  refine lv_iconst (v := 1) E.1 E.2.1 dX6_setAgain_5 (by decide) ?_
  refine lv_iload_n E.1 E.2.1 dX6_setAgain_6 rfl (lv_at hl 1 rfl) ?_
  refine lv_ishl E.1 E.2.1 dX6_setAgain_7 ?_
  refine lv_topi (fun v3 e4 => ?_)
  refine lv_ior E.1 E.2.1 dX6_setAgain_8 ?_
  refine lv_topi (fun v5 e6 => ?_)
  refine t_puti E G 6 6 (at_ro (i := 0) ap0 (by decide) : ro p0 = 6) (C := RX6) (T := TX6) (N := 8) rfl (by decide) (by decide) (by decide) rfl rfl mw_fl_6_30 rfl dX6_setAgain_9 (fun H locs G => ?_)
  obtain ⟨zz7, G, oo8, kk9, h10⟩ : ∃ u : TS, mG D A s H locs (wd K ad u) ∧ Ok u ∧ KS z u ∧ tI u p0 6 = v5 := ⟨_, G, ok_i o 6 (at_ro (i := 0) ap0 (by decide) : ro p0 = 6) (iv_mono (iv_full v5) (by decide) (by decide)) (by decide), KF.tr KF.rf (KF_i 6 (at_ro (i := 0) ap0 (by decide) : ro p0 = 6) (by decide)), sI_self⟩
  exact RET G ⟨oo8, kk9⟩ dX6_setAgain_12
set_option maxHeartbeats 4000000 in
set_option maxRecDepth 100000 in
theorem s_all (l : Launch) (D : va_G) (K : Nat → ClassId) (ad : Nat → Nat) (z : TS) (o : Ok z) (p0 : Nat) (ap0 : at_ 6 p0 = true) (x1 : Int32) (bx1 : iv 0 5 x1) : cI l yX6_allCharges cX6_allCharges 4 .int ({ frames := 0, cells := 0, slots := 0, locals := 0 }) D K ad z [.ref (ad p0), .int x1] (fun r u => u = z) := by
  refine t_enterI (by decide) (Nat.le_of_ble_eq_true rfl) rfl rfl ?_
  intro p e s m args below meth c A R Q H locs ls E hfr hlo RET G hl
  have E : mE p s m meth c cX6_allCharges args 4 RX6 D K A := E
  have hl : lv_has ls 4 [(0, .ref (ad p0)), (1, .int x1)] := hl
  refine lv_iconst (v := 0) E.1 E.2.1 dX6_allCharges_0 (by decide) ?_
  refine lv_istore_n (lv' := [(2, .int 0), (0, .ref (ad p0)), (1, .int x1)]) E.1 E.2.1 dX6_allCharges_1 rfl hl (by decide) rfl (fun ls hl => ?_)
  refine lv_iconst (v := 0) E.1 E.2.1 dX6_allCharges_2 (by decide) ?_
  refine lv_istore_n (lv' := [(3, .int 0), (2, .int 0), (0, .ref (ad p0)), (1, .int x1)]) E.1 E.2.1 dX6_allCharges_3 rfl hl (by decide) rfl (fun ls hl => ?_)
  have LOOP4 : ∀ n : Nat, ∀ (y1 : Int32) (y2 : Int32) (H : Heap) (locs : List Loc) (ls : Array Slot), mG D A s H locs (wd K ad z) → iv 0 5 y1 → 5 < y1.toInt + (n : Int) → lv_has ls 4 [(3, .int y1), (2, .int y2), (0, .ref (ad p0)), (1, .int x1)] → W p l e R s m args below meth c H locs 0 0 Q (F0 m 4 ls []) := by
    intro n
    induction n with
    | zero =>
      intro y1 y2 H locs ls G b7 m6 hl
      exact absurd m6 (by have := b7.1; have := b7.2; omega)
    | succ n ih4 =>
      intro y1 y2 H locs ls G b7 m6 hl
      refine lv_iload_n E.1 E.2.1 dX6_allCharges_4 rfl (lv_at hl 0 rfl) ?_
      refine lv_iload_n E.1 E.2.1 dX6_allCharges_5 rfl (lv_at hl 3 rfl) ?_
      refine lv_icmp_ge (tgt := 24) E.1 E.2.1 dX6_allCharges_6 (by decide) (fun c8 => ?_) (fun c8 => ?_)
      · skip
        refine lv_iload_n E.1 E.2.1 dX6_allCharges_24 rfl (lv_at hl 1 rfl) ?_
        exact RET G rfl rfl dX6_allCharges_25
      · skip
        have b9 : iv 0 4 y1 := lt_l (Int32.not_le.mp c8) b7 bx1 (by decide)
        have b10 : iv 1 5 x1 := lt_r (Int32.not_le.mp c8) b7 bx1 (by decide)
        refine lv_iload_n E.1 E.2.1 dX6_allCharges_9 rfl (lv_at hl 1 rfl) ?_
        refine lv_aload_n E.1 E.2.1 dX6_allCharges_10 rfl (lv_at hl 2 rfl) ?_
        refine t_get E G 6 3 (at_ro (i := 0) ap0 (by decide) : ro p0 = 6) (C := RX6) (T := TX6) (N := 8) rfl (by decide) (by decide) (by decide) mw_fl_6_21 (v := .ref (ad (p0 + 4))) (fvl_o (n := 4) rfl) dX6_allCharges_11 ?_
        refine lv_iload_n E.1 E.2.1 dX6_allCharges_14 rfl (lv_at hl 0 rfl) ?_
        refine t_iald E G 22 (at_ro (i := 4) ap0 (by decide) : ro (p0 + 4) = 22) (by decide) (by decide) rfl (n := 5) rfl (iv_vp b9 (by decide) (by decide)) dX6_allCharges_15 ?_
        refine lv_topi (fun v11 e12 => ?_)
        refine lv_iadd E.1 E.2.1 dX6_allCharges_16 ?_
        refine lv_topi (fun v13 e14 => ?_)
        refine lv_istore_n (lv' := [(2, .int v13), (3, .int y1), (0, .ref (ad p0)), (1, .int x1)]) E.1 E.2.1 dX6_allCharges_17 rfl hl (by decide) rfl (fun ls hl => ?_)
        obtain ⟨v15, e16⟩ : ∃ w : Int32, w = y1 + (1 : Int32) := ⟨_, rfl⟩
        refine lv_iinc (v := v15) (lv' := [(3, .int v15), (2, .int v13), (0, .ref (ad p0)), (1, .int x1)]) E.1 E.2.1 dX6_allCharges_18 hl (k := 1) rfl (by rw [e16]; rfl) (by decide) rfl (fun ls hl => ?_)
        have b17 : iv 1 5 v15 := by rw [e16]; exact iv_add b9 (iv_lit (lo := 1) (hi := 1) 1 (by decide) (by decide)) (by decide) (by decide) (by decide) (by decide)
        have t18 : v15.toInt = y1.toInt + 1 := by rw [e16]; exact ti_addc 1 (by decide) b9 (by decide) (by decide)
        refine lv_goto (tgt := 4) E.1 E.2.1 dX6_allCharges_21 (by decide) ?_
        exact ih4 v15 v13 H locs ls G (iv_mono b17 (by decide) (by decide)) (by have := t18; have := m6; omega) (lv_sub hl [0, 1, 2, 3] rfl)
  exact LOOP4 6 0 0 H locs ls G (iv_mono (iv_lit (lo := 0) (hi := 0) 0 (by decide) (by decide)) (by decide) (by decide)) (by have := (iv_lit (lo := 0) (hi := 0) 0 (by decide) (by decide)).1; omega) (lv_sub hl [0, 1, 2, 3] rfl)
