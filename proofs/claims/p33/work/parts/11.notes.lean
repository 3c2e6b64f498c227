theorem mw_code_max : (Cond.code Lib.Math.max.name Lib.Math.max.code 2 (some .int) : Cond) ∈ cw := cw_of (List.mem_append_right _ (List.mem_append_right _ (List.mem_append_right _ (List.mem_append_left _ (List.mem_of_getElem? (i := 67) rfl))))) (by decide +kernel)
theorem mw_fl_3_15 : (Cond.fieldLink RX3 15 "LureTown$Notes" "behind" "[I" : Cond) ∈ cw := cw_of (List.mem_append_right _ (List.mem_append_right _ (List.mem_append_left _ (List.mem_of_getElem? (i := 39) (by decide +kernel))))) (by decide +kernel)
theorem mw_fl_3_19 : (Cond.fieldLink RX3 19 "LureTown$Notes" "walkers" "[I" : Cond) ∈ cw := cw_of (List.mem_append_right _ (List.mem_append_right _ (List.mem_append_left _ (List.mem_of_getElem? (i := 40) (by decide +kernel))))) (by decide +kernel)
theorem mw_fl_3_22 : (Cond.fieldLink RX3 22 "LureTown$Notes" "corners" "[I" : Cond) ∈ cw := cw_of (List.mem_append_right _ (List.mem_append_right _ (List.mem_append_left _ (List.mem_of_getElem? (i := 41) (by decide +kernel))))) (by decide +kernel)
theorem mw_fl_3_37 : (Cond.fieldLink RX3 37 "LureTown$State" "walkerCorner" "[I" : Cond) ∈ cw := cw_of (List.mem_append_right _ (List.mem_append_left _ (List.mem_of_getElem? (i := 88) (by decide +kernel)))) (by decide +kernel)
theorem mw_fl_3_9 : (Cond.fieldLink RX3 9 "LureTown$Notes" "size" "I" : Cond) ∈ cw := cw_of (List.mem_append_right _ (List.mem_append_right _ (List.mem_append_left _ (List.mem_of_getElem? (i := 37) (by decide +kernel))))) (by decide +kernel)
theorem mw_ini_Math : (Cond.initialized "java/lang/Math" : Cond) ∈ cw := cw_of (List.mem_append_right _ (List.mem_append_left _ (List.mem_of_getElem? (i := 17) (by decide +kernel)))) (by decide +kernel)
theorem mw_ml_3_25 : (Cond.methodLink RX3 25 arraycopyName : Cond) ∈ cw := cw_of (List.mem_append_right _ (List.mem_append_right _ (List.mem_append_right _ (List.mem_append_right _ (List.mem_append_right _ (List.mem_append_left _ (List.mem_of_getElem? (i := 96) (by decide +kernel)))))))) (by decide +kernel)
theorem mw_ml_3_31 : (Cond.methodLink RX3 31 Lib.Math.max.name : Cond) ∈ cw := cw_of (List.mem_append_right _ (List.mem_append_right _ (List.mem_append_right _ (List.mem_append_right _ (List.mem_append_right _ (List.mem_append_left _ (List.mem_of_getElem? (i := 56) (by decide +kernel)))))))) (by decide +kernel)
theorem mw_stat_max : (Cond.static Lib.Math.max.name : Cond) ∈ cw := cw_of (List.mem_append_right _ (List.mem_append_right _ (List.mem_append_right _ (List.mem_append_left _ (List.mem_of_getElem? (i := 66) (by decide +kernel)))))) (by decide +kernel)
theorem dX3_add_0 : decode cX3_add 0 = .ok (.aload_n 0, 1) := by decide +kernel
theorem dX3_add_1 : decode cX3_add 1 = .ok (.getfield 9, 3) := by decide +kernel
theorem dX3_add_4 : decode cX3_add 4 = .ok (.bipush 10, 2) := by decide +kernel
theorem dX3_add_6 : decode cX3_add 6 = .ok (.if_icmp .lt 5, 3) := by decide +kernel
theorem dX3_add_9 : decode cX3_add 9 = .ok (.iconst 0, 1) := by decide +kernel
theorem dX3_add_10 : decode cX3_add 10 = .ok (.ireturn, 1) := by decide +kernel
theorem dX3_add_11 : decode cX3_add 11 = .ok (.aload_n 0, 1) := by decide +kernel
theorem dX3_add_12 : decode cX3_add 12 = .ok (.getfield 15, 3) := by decide +kernel
theorem dX3_add_15 : decode cX3_add 15 = .ok (.aload_n 0, 1) := by decide +kernel
theorem dX3_add_16 : decode cX3_add 16 = .ok (.getfield 9, 3) := by decide +kernel
theorem dX3_add_19 : decode cX3_add 19 = .ok (.iload_n 1, 1) := by decide +kernel
theorem dX3_add_20 : decode cX3_add 20 = .ok (.iastore, 1) := by decide +kernel
theorem dX3_add_21 : decode cX3_add 21 = .ok (.aload_n 0, 1) := by decide +kernel
theorem dX3_add_22 : decode cX3_add 22 = .ok (.getfield 19, 3) := by decide +kernel
theorem dX3_add_25 : decode cX3_add 25 = .ok (.aload_n 0, 1) := by decide +kernel
theorem dX3_add_26 : decode cX3_add 26 = .ok (.getfield 9, 3) := by decide +kernel
theorem dX3_add_29 : decode cX3_add 29 = .ok (.iload_n 2, 1) := by decide +kernel
theorem dX3_add_30 : decode cX3_add 30 = .ok (.iastore, 1) := by decide +kernel
theorem dX3_add_31 : decode cX3_add 31 = .ok (.aload_n 0, 1) := by decide +kernel
theorem dX3_add_32 : decode cX3_add 32 = .ok (.getfield 22, 3) := by decide +kernel
theorem dX3_add_35 : decode cX3_add 35 = .ok (.aload_n 0, 1) := by decide +kernel
theorem dX3_add_36 : decode cX3_add 36 = .ok (.getfield 9, 3) := by decide +kernel
theorem dX3_add_39 : decode cX3_add 39 = .ok (.iload_n 3, 1) := by decide +kernel
theorem dX3_add_40 : decode cX3_add 40 = .ok (.iastore, 1) := by decide +kernel
theorem dX3_add_41 : decode cX3_add 41 = .ok (.aload_n 0, 1) := by decide +kernel
theorem dX3_add_42 : decode cX3_add 42 = .ok (.dup, 1) := by decide +kernel
theorem dX3_add_43 : decode cX3_add 43 = .ok (.getfield 9, 3) := by decide +kernel
theorem dX3_add_46 : decode cX3_add 46 = .ok (.iconst 1, 1) := by decide +kernel
theorem dX3_add_47 : decode cX3_add 47 = .ok (.iadd, 1) := by decide +kernel
theorem dX3_add_48 : decode cX3_add 48 = .ok (.putfield 9, 3) := by decide +kernel
theorem dX3_add_51 : decode cX3_add 51 = .ok (.iconst 1, 1) := by decide +kernel
theorem dX3_add_52 : decode cX3_add 52 = .ok (.ireturn, 1) := by decide +kernel
theorem dX3_areSoBehind_0 : decode cX3_areSoBehind 0 = .ok (.iconst 0, 1) := by decide +kernel
theorem dX3_areSoBehind_1 : decode cX3_areSoBehind 1 = .ok (.istore_n 3, 1) := by decide +kernel
theorem dX3_areSoBehind_2 : decode cX3_areSoBehind 2 = .ok (.iload_n 3, 1) := by decide +kernel
theorem dX3_areSoBehind_3 : decode cX3_areSoBehind 3 = .ok (.aload_n 0, 1) := by decide +kernel
theorem dX3_areSoBehind_4 : decode cX3_areSoBehind 4 = .ok (.getfield 9, 3) := by decide +kernel
theorem dX3_areSoBehind_7 : decode cX3_areSoBehind 7 = .ok (.if_icmp .ge 41, 3) := by decide +kernel
theorem dX3_areSoBehind_10 : decode cX3_areSoBehind 10 = .ok (.aload_n 0, 1) := by decide +kernel
theorem dX3_areSoBehind_11 : decode cX3_areSoBehind 11 = .ok (.getfield 15, 3) := by decide +kernel
theorem dX3_areSoBehind_14 : decode cX3_areSoBehind 14 = .ok (.iload_n 3, 1) := by decide +kernel
theorem dX3_areSoBehind_15 : decode cX3_areSoBehind 15 = .ok (.iaload, 1) := by decide +kernel
theorem dX3_areSoBehind_16 : decode cX3_areSoBehind 16 = .ok (.iload_n 1, 1) := by decide +kernel
theorem dX3_areSoBehind_17 : decode cX3_areSoBehind 17 = .ok (.if_icmp .ne 25, 3) := by decide +kernel
theorem dX3_areSoBehind_20 : decode cX3_areSoBehind 20 = .ok (.aload_n 2, 1) := by decide +kernel
theorem dX3_areSoBehind_21 : decode cX3_areSoBehind 21 = .ok (.getfield 37, 3) := by decide +kernel
theorem dX3_areSoBehind_24 : decode cX3_areSoBehind 24 = .ok (.aload_n 0, 1) := by decide +kernel
theorem dX3_areSoBehind_25 : decode cX3_areSoBehind 25 = .ok (.getfield 19, 3) := by decide +kernel
theorem dX3_areSoBehind_28 : decode cX3_areSoBehind 28 = .ok (.iload_n 3, 1) := by decide +kernel
theorem dX3_areSoBehind_29 : decode cX3_areSoBehind 29 = .ok (.iaload, 1) := by decide +kernel
theorem dX3_areSoBehind_30 : decode cX3_areSoBehind 30 = .ok (.iaload, 1) := by decide +kernel
theorem dX3_areSoBehind_31 : decode cX3_areSoBehind 31 = .ok (.aload_n 0, 1) := by decide +kernel
theorem dX3_areSoBehind_32 : decode cX3_areSoBehind 32 = .ok (.getfield 22, 3) := by decide +kernel
theorem dX3_areSoBehind_35 : decode cX3_areSoBehind 35 = .ok (.iload_n 3, 1) := by decide +kernel
theorem dX3_areSoBehind_36 : decode cX3_areSoBehind 36 = .ok (.iaload, 1) := by decide +kernel
theorem dX3_areSoBehind_37 : decode cX3_areSoBehind 37 = .ok (.if_icmp .eq 5, 3) := by decide +kernel
theorem dX3_areSoBehind_40 : decode cX3_areSoBehind 40 = .ok (.iconst 0, 1) := by decide +kernel
theorem dX3_areSoBehind_41 : decode cX3_areSoBehind 41 = .ok (.ireturn, 1) := by decide +kernel
theorem dX3_areSoBehind_42 : decode cX3_areSoBehind 42 = .ok (.iinc 3 1, 3) := by decide +kernel
theorem dX3_areSoBehind_45 : decode cX3_areSoBehind 45 = .ok (.goto (-43), 3) := by decide +kernel
theorem dX3_areSoBehind_48 : decode cX3_areSoBehind 48 = .ok (.iconst 1, 1) := by decide +kernel
theorem dX3_areSoBehind_49 : decode cX3_areSoBehind 49 = .ok (.ireturn, 1) := by decide +kernel
theorem dX3_copyFrom_0 : decode cX3_copyFrom 0 = .ok (.aload_n 0, 1) := by decide +kernel
theorem dX3_copyFrom_1 : decode cX3_copyFrom 1 = .ok (.aload_n 1, 1) := by decide +kernel
theorem dX3_copyFrom_2 : decode cX3_copyFrom 2 = .ok (.getfield 9, 3) := by decide +kernel
theorem dX3_copyFrom_5 : decode cX3_copyFrom 5 = .ok (.putfield 9, 3) := by decide +kernel
theorem dX3_copyFrom_8 : decode cX3_copyFrom 8 = .ok (.aload_n 1, 1) := by decide +kernel
theorem dX3_copyFrom_9 : decode cX3_copyFrom 9 = .ok (.getfield 15, 3) := by decide +kernel
theorem dX3_copyFrom_12 : decode cX3_copyFrom 12 = .ok (.iconst 0, 1) := by decide +kernel
theorem dX3_copyFrom_13 : decode cX3_copyFrom 13 = .ok (.aload_n 0, 1) := by decide +kernel
theorem dX3_copyFrom_14 : decode cX3_copyFrom 14 = .ok (.getfield 15, 3) := by decide +kernel
theorem dX3_copyFrom_17 : decode cX3_copyFrom 17 = .ok (.iconst 0, 1) := by decide +kernel
theorem dX3_copyFrom_18 : decode cX3_copyFrom 18 = .ok (.bipush 10, 2) := by decide +kernel
theorem dX3_copyFrom_20 : decode cX3_copyFrom 20 = .ok (.invokestatic 25, 3) := by decide +kernel
theorem dX3_copyFrom_23 : decode cX3_copyFrom 23 = .ok (.aload_n 1, 1) := by decide +kernel
theorem dX3_copyFrom_24 : decode cX3_copyFrom 24 = .ok (.getfield 19, 3) := by decide +kernel
theorem dX3_copyFrom_27 : decode cX3_copyFrom 27 = .ok (.iconst 0, 1) := by decide +kernel
theorem dX3_copyFrom_28 : decode cX3_copyFrom 28 = .ok (.aload_n 0, 1) := by decide +kernel
theorem dX3_copyFrom_29 : decode cX3_copyFrom 29 = .ok (.getfield 19, 3) := by decide +kernel
theorem dX3_copyFrom_32 : decode cX3_copyFrom 32 = .ok (.iconst 0, 1) := by decide +kernel
theorem dX3_copyFrom_33 : decode cX3_copyFrom 33 = .ok (.bipush 10, 2) := by decide +kernel
theorem dX3_copyFrom_35 : decode cX3_copyFrom 35 = .ok (.invokestatic 25, 3) := by decide +kernel
theorem dX3_copyFrom_38 : decode cX3_copyFrom 38 = .ok (.aload_n 1, 1) := by decide +kernel
theorem dX3_copyFrom_39 : decode cX3_copyFrom 39 = .ok (.getfield 22, 3) := by decide +kernel
theorem dX3_copyFrom_42 : decode cX3_copyFrom 42 = .ok (.iconst 0, 1) := by decide +kernel
theorem dX3_copyFrom_43 : decode cX3_copyFrom 43 = .ok (.aload_n 0, 1) := by decide +kernel
theorem dX3_copyFrom_44 : decode cX3_copyFrom 44 = .ok (.getfield 22, 3) := by decide +kernel
theorem dX3_copyFrom_47 : decode cX3_copyFrom 47 = .ok (.iconst 0, 1) := by decide +kernel
theorem dX3_copyFrom_48 : decode cX3_copyFrom 48 = .ok (.bipush 10, 2) := by decide +kernel
theorem dX3_copyFrom_50 : decode cX3_copyFrom 50 = .ok (.invokestatic 25, 3) := by decide +kernel
theorem dX3_copyFrom_53 : decode cX3_copyFrom 53 = .ok (.return_, 1) := by decide +kernel
theorem dX3_lastStep_0 : decode cX3_lastStep 0 = .ok (.iconst (-1), 1) := by decide +kernel
theorem dX3_lastStep_1 : decode cX3_lastStep 1 = .ok (.istore_n 1, 1) := by decide +kernel
theorem dX3_lastStep_2 : decode cX3_lastStep 2 = .ok (.iconst 0, 1) := by decide +kernel
theorem dX3_lastStep_3 : decode cX3_lastStep 3 = .ok (.istore_n 2, 1) := by decide +kernel
theorem dX3_lastStep_4 : decode cX3_lastStep 4 = .ok (.iload_n 2, 1) := by decide +kernel
theorem dX3_lastStep_5 : decode cX3_lastStep 5 = .ok (.aload_n 0, 1) := by decide +kernel
theorem dX3_lastStep_6 : decode cX3_lastStep 6 = .ok (.getfield 9, 3) := by decide +kernel
theorem dX3_lastStep_9 : decode cX3_lastStep 9 = .ok (.if_icmp .ge 20, 3) := by decide +kernel
theorem dX3_lastStep_12 : decode cX3_lastStep 12 = .ok (.iload_n 1, 1) := by decide +kernel
theorem dX3_lastStep_13 : decode cX3_lastStep 13 = .ok (.aload_n 0, 1) := by decide +kernel
theorem dX3_lastStep_14 : decode cX3_lastStep 14 = .ok (.getfield 15, 3) := by decide +kernel
theorem dX3_lastStep_17 : decode cX3_lastStep 17 = .ok (.iload_n 2, 1) := by decide +kernel
theorem dX3_lastStep_18 : decode cX3_lastStep 18 = .ok (.iaload, 1) := by decide +kernel
theorem dX3_lastStep_19 : decode cX3_lastStep 19 = .ok (.invokestatic 31, 3) := by decide +kernel
theorem dX3_lastStep_22 : decode cX3_lastStep 22 = .ok (.istore_n 1, 1) := by decide +kernel
theorem dX3_lastStep_23 : decode cX3_lastStep 23 = .ok (.iinc 2 1, 3) := by decide +kernel
theorem dX3_lastStep_26 : decode cX3_lastStep 26 = .ok (.goto (-22), 3) := by decide +kernel
theorem dX3_lastStep_29 : decode cX3_lastStep 29 = .ok (.iload_n 1, 1) := by decide +kernel
theorem dX3_lastStep_30 : decode cX3_lastStep 30 = .ok (.ireturn, 1) := by decide +kernel
set_option maxHeartbeats 4000000 in
set_option maxRecDepth 100000 in
theorem n_copy (l : Launch) (D : va_G) (K : Nat → ClassId) (ad : Nat → Nat) (z : TS) (o : Ok z) (p0 : Nat) (ap0 : at_ 3 p0 = true) (p1 : Nat) (ap1 : at_ 3 p1 = true) : cV l yX3_copyFrom cX3_copyFrom 2 ({ frames := 1, cells := 0, slots := 0, locals := 26 }) D K ad z [.ref (ad p0), .ref (ad p1)] (fun u => Ok u ∧ KC z u) := by
  refine t_enterV (by decide) (Nat.le_of_ble_eq_true rfl) rfl rfl ?_
  intro p e s m args below meth c A R Q H locs ls E hfr hlo RET G hl
  have E : mE p s m meth c cX3_copyFrom args 2 RX3 D K A := E
  have hl : lv_has ls 2 [(0, .ref (ad p0)), (1, .ref (ad p1))] := hl
  refine lv_aload_n E.1 E.2.1 dX3_copyFrom_0 rfl (lv_at hl 0 rfl) ?_
  refine lv_aload_n E.1 E.2.1 dX3_copyFrom_1 rfl (lv_at hl 1 rfl) ?_
  refine t_get E G 3 0 (at_ro (i := 0) ap1 (by decide) : ro p1 = 3) (C := RX3) (T := TX3) (N := 4) rfl (by decide) (by decide) (by decide) mw_fl_3_9 (fvl_i rfl) dX3_copyFrom_2 ?_
  refine lv_topi (fun v1 e2 => ?_)
  have b3 : iv 0 10 v1 := by rw [e2]; exact o.i 3 0 (at_ro (i := 0) ap1 (by decide) : ro p1 = 3)
  refine t_puti E G 3 0 (at_ro (i := 0) ap0 (by decide) : ro p0 = 3) (C := RX3) (T := TX3) (N := 4) rfl (by decide) (by decide) (by decide) rfl rfl mw_fl_3_9 rfl dX3_copyFrom_5 (fun H locs G => ?_)
  obtain ⟨zz4, G, oo5, kk6, h7⟩ : ∃ u : TS, mG D A s H locs (wd K ad u) ∧ Ok u ∧ KC z u ∧ tI u p0 0 = v1 := ⟨_, G, ok_i o 3 (at_ro (i := 0) ap0 (by decide) : ro p0 = 3) (iv_mono b3 (by decide) (by decide)) (by decide), KC.tr KC.rf (KC_i 3 (at_ro (i := 0) ap0 (by decide) : ro p0 = 3) (by decide)), sI_self⟩
  refine lv_aload_n E.1 E.2.1 dX3_copyFrom_8 rfl (lv_at hl 1 rfl) ?_
  refine t_get E G 3 1 (at_ro (i := 0) ap1 (by decide) : ro p1 = 3) (C := RX3) (T := TX3) (N := 4) rfl (by decide) (by decide) (by decide) mw_fl_3_15 (v := .ref (ad (p1 + 1))) (fvl_o (n := 1) rfl) dX3_copyFrom_9 ?_
  refine lv_iconst (v := 0) E.1 E.2.1 dX3_copyFrom_12 (by decide) ?_
  refine lv_aload_n E.1 E.2.1 dX3_copyFrom_13 rfl (lv_at hl 0 rfl) ?_
  refine t_get E G 3 1 (at_ro (i := 0) ap0 (by decide) : ro p0 = 3) (C := RX3) (T := TX3) (N := 4) rfl (by decide) (by decide) (by decide) mw_fl_3_15 (v := .ref (ad (p0 + 1))) (fvl_o (n := 1) rfl) dX3_copyFrom_14 ?_
  refine lv_iconst (v := 0) E.1 E.2.1 dX3_copyFrom_17 (by decide) ?_
  refine lv_bipush (v := 10) E.1 E.2.1 dX3_copyFrom_18 (by decide) ?_
  refine t_copyi E G hl mw_ml_3_25 27 27 (at_ro (i := 1) ap1 (by decide) : ro (p1 + 1) = 27) (at_ro (i := 1) ap0 (by decide) : ro (p0 + 1) = 27) (by decide) (by decide) (by decide) (by decide) rfl rfl (n0 := 10) (n1 := 10) rfl rfl (by decide) (by decide) (by decide) (by decide) (by decide) (Nat.le_trans (by decide) hfr) (Nat.le_of_ble_eq_true rfl) (Nat.le_trans (by decide) hlo) dX3_copyFrom_20 (fun H locs G => ?_)
  obtain ⟨zz8, G, oo9, kk10, h11⟩ : ∃ u : TS, mG D A s H locs (wd K ad u) ∧ Ok u ∧ KC z u ∧ tI u p0 0 = v1 := ⟨_, G, ok_cc oo5 27 27 (at_ro (i := 1) ap1 (by decide) : ro (p1 + 1) = 27) (at_ro (i := 1) ap0 (by decide) : ro (p0 + 1) = 27) (by decide) (by decide) (by decide) (by decide) (by decide), KC.tr kk6 (KC_r 27 (at_ro (i := 1) ap0 (by decide) : ro (p0 + 1) = 27) (by decide)), h7⟩
  refine lv_aload_n E.1 E.2.1 dX3_copyFrom_23 rfl (lv_at hl 1 rfl) ?_
  refine t_get E G 3 2 (at_ro (i := 0) ap1 (by decide) : ro p1 = 3) (C := RX3) (T := TX3) (N := 4) rfl (by decide) (by decide) (by decide) mw_fl_3_19 (v := .ref (ad (p1 + 2))) (fvl_o (n := 2) rfl) dX3_copyFrom_24 ?_
  refine lv_iconst (v := 0) E.1 E.2.1 dX3_copyFrom_27 (by decide) ?_
  refine lv_aload_n E.1 E.2.1 dX3_copyFrom_28 rfl (lv_at hl 0 rfl) ?_
  refine t_get E G 3 2 (at_ro (i := 0) ap0 (by decide) : ro p0 = 3) (C := RX3) (T := TX3) (N := 4) rfl (by decide) (by decide) (by decide) mw_fl_3_19 (v := .ref (ad (p0 + 2))) (fvl_o (n := 2) rfl) dX3_copyFrom_29 ?_
  refine lv_iconst (v := 0) E.1 E.2.1 dX3_copyFrom_32 (by decide) ?_
  refine lv_bipush (v := 10) E.1 E.2.1 dX3_copyFrom_33 (by decide) ?_
  refine t_copyi E G hl mw_ml_3_25 28 28 (at_ro (i := 2) ap1 (by decide) : ro (p1 + 2) = 28) (at_ro (i := 2) ap0 (by decide) : ro (p0 + 2) = 28) (by decide) (by decide) (by decide) (by decide) rfl rfl (n0 := 10) (n1 := 10) rfl rfl (by decide) (by decide) (by decide) (by decide) (by decide) (Nat.le_trans (by decide) hfr) (Nat.le_of_ble_eq_true rfl) (Nat.le_trans (by decide) hlo) dX3_copyFrom_35 (fun H locs G => ?_)
  obtain ⟨zz12, G, oo13, kk14, h15⟩ : ∃ u : TS, mG D A s H locs (wd K ad u) ∧ Ok u ∧ KC z u ∧ tI u p0 0 = v1 := ⟨_, G, ok_cc oo9 28 28 (at_ro (i := 2) ap1 (by decide) : ro (p1 + 2) = 28) (at_ro (i := 2) ap0 (by decide) : ro (p0 + 2) = 28) (by decide) (by decide) (by decide) (by decide) (by decide), KC.tr kk10 (KC_r 28 (at_ro (i := 2) ap0 (by decide) : ro (p0 + 2) = 28) (by decide)), h11⟩
  refine lv_aload_n E.1 E.2.1 dX3_copyFrom_38 rfl (lv_at hl 1 rfl) ?_
  refine t_get E G 3 3 (at_ro (i := 0) ap1 (by decide) : ro p1 = 3) (C := RX3) (T := TX3) (N := 4) rfl (by decide) (by decide) (by decide) mw_fl_3_22 (v := .ref (ad (p1 + 3))) (fvl_o (n := 3) rfl) dX3_copyFrom_39 ?_
  refine lv_iconst (v := 0) E.1 E.2.1 dX3_copyFrom_42 (by decide) ?_
  refine lv_aload_n E.1 E.2.1 dX3_copyFrom_43 rfl (lv_at hl 0 rfl) ?_
  refine t_get E G 3 3 (at_ro (i := 0) ap0 (by decide) : ro p0 = 3) (C := RX3) (T := TX3) (N := 4) rfl (by decide) (by decide) (by decide) mw_fl_3_22 (v := .ref (ad (p0 + 3))) (fvl_o (n := 3) rfl) dX3_copyFrom_44 ?_
  refine lv_iconst (v := 0) E.1 E.2.1 dX3_copyFrom_47 (by decide) ?_
  refine lv_bipush (v := 10) E.1 E.2.1 dX3_copyFrom_48 (by decide) ?_
  refine t_copyi E G hl mw_ml_3_25 29 29 (at_ro (i := 3) ap1 (by decide) : ro (p1 + 3) = 29) (at_ro (i := 3) ap0 (by decide) : ro (p0 + 3) = 29) (by decide) (by decide) (by decide) (by decide) rfl rfl (n0 := 10) (n1 := 10) rfl rfl (by decide) (by decide) (by decide) (by decide) (by decide) (Nat.le_trans (by decide) hfr) (Nat.le_of_ble_eq_true rfl) (Nat.le_trans (by decide) hlo) dX3_copyFrom_50 (fun H locs G => ?_)
  obtain ⟨zz16, G, oo17, kk18, h19⟩ : ∃ u : TS, mG D A s H locs (wd K ad u) ∧ Ok u ∧ KC z u ∧ tI u p0 0 = v1 := ⟨_, G, ok_cc oo13 29 29 (at_ro (i := 3) ap1 (by decide) : ro (p1 + 3) = 29) (at_ro (i := 3) ap0 (by decide) : ro (p0 + 3) = 29) (by decide) (by decide) (by decide) (by decide) (by decide), KC.tr kk14 (KC_r 29 (at_ro (i := 3) ap0 (by decide) : ro (p0 + 3) = 29) (by decide)), h15⟩
  exact RET G ⟨oo17, kk18⟩ dX3_copyFrom_53
set_option maxHeartbeats 4000000 in
set_option maxRecDepth 100000 in
theorem n_add (l : Launch) (D : va_G) (K : Nat → ClassId) (ad : Nat → Nat) (z : TS) (o : Ok z) (p0 : Nat) (ap0 : at_ 3 p0 = true) (x1 : Int32) (bx1 : iv 0 60 x1) (x2 : Int32) (bx2 : iv 0 4 x2) (x3 : Int32) : cI l yX3_add cX3_add 4 .boolean ({ frames := 0, cells := 0, slots := 0, locals := 0 }) D K ad z [.ref (ad p0), .int x1, .int x2, .int x3] (fun r u => Ok u ∧ KC z u ∧ iv 0 1 r) := by
  refine t_enterI (by decide) (Nat.le_of_ble_eq_true rfl) rfl rfl ?_
  intro p e s m args below meth c A R Q H locs ls E hfr hlo RET G hl
  have E : mE p s m meth c cX3_add args 4 RX3 D K A := E
  have hl : lv_has ls 4 [(0, .ref (ad p0)), (1, .int x1), (2, .int x2), (3, .int x3)] := hl
  refine lv_aload_n E.1 E.2.1 dX3_add_0 rfl (lv_at hl 0 rfl) ?_
  refine t_get E G 3 0 (at_ro (i := 0) ap0 (by decide) : ro p0 = 3) (C := RX3) (T := TX3) (N := 4) rfl (by decide) (by decide) (by decide) mw_fl_3_9 (fvl_i rfl) dX3_add_1 ?_
  refine lv_topi (fun v1 e2 => ?_)
  have b3 : iv 0 10 v1 := by rw [e2]; exact o.i 3 0 (at_ro (i := 0) ap0 (by decide) : ro p0 = 3)
  refine lv_bipush (v := 10) E.1 E.2.1 dX3_add_4 (by decide) ?_
  refine lv_icmp_lt (tgt := 11) E.1 E.2.1 dX3_add_6 (by decide) (fun c4 => ?_) (fun c4 => ?_)
  · skip
    have b5 : iv 0 9 v1 := lt_l c4 b3 (iv_lit (lo := 10) (hi := 10) 10 (by decide) (by decide)) (by decide)
    refine lv_aload_n E.1 E.2.1 dX3_add_11 rfl (lv_at hl 0 rfl) ?_
    refine t_get E G 3 1 (at_ro (i := 0) ap0 (by decide) : ro p0 = 3) (C := RX3) (T := TX3) (N := 4) rfl (by decide) (by decide) (by decide) mw_fl_3_15 (v := .ref (ad (p0 + 1))) (fvl_o (n := 1) rfl) dX3_add_12 ?_
    refine lv_aload_n E.1 E.2.1 dX3_add_15 rfl (lv_at hl 0 rfl) ?_
    refine t_get E G 3 0 (at_ro (i := 0) ap0 (by decide) : ro p0 = 3) (C := RX3) (T := TX3) (N := 4) rfl (by decide) (by decide) (by decide) mw_fl_3_9 (fvl_i rfl) dX3_add_16 ?_
    refine m_ci v1 e2.symm ?_
    refine lv_iload_n E.1 E.2.1 dX3_add_19 rfl (lv_at hl 1 rfl) ?_
    refine t_iast E G 27 (at_ro (i := 1) ap0 (by decide) : ro (p0 + 1) = 27) (by decide) (by decide) rfl (n := 10) rfl (iv_vp b5 (by decide) (by decide)) dX3_add_20 (fun H locs G => ?_)
    obtain ⟨zz6, G, oo7, kk8, h9⟩ : ∃ u : TS, mG D A s H locs (wd K ad u) ∧ Ok u ∧ KC z u ∧ tI u p0 0 = v1 := ⟨_, G, ok_uc o 27 (at_ro (i := 1) ap0 (by decide) : ro (p0 + 1) = 27) (by decide) (iv_mono bx1 (by decide) (by decide)) (by decide), KC.tr KC.rf (KC_r 27 (at_ro (i := 1) ap0 (by decide) : ro (p0 + 1) = 27) (by decide)), e2.symm⟩
    refine lv_aload_n E.1 E.2.1 dX3_add_21 rfl (lv_at hl 0 rfl) ?_
    refine t_get E G 3 2 (at_ro (i := 0) ap0 (by decide) : ro p0 = 3) (C := RX3) (T := TX3) (N := 4) rfl (by decide) (by decide) (by decide) mw_fl_3_19 (v := .ref (ad (p0 + 2))) (fvl_o (n := 2) rfl) dX3_add_22 ?_
    refine lv_aload_n E.1 E.2.1 dX3_add_25 rfl (lv_at hl 0 rfl) ?_
    refine t_get E G 3 0 (at_ro (i := 0) ap0 (by decide) : ro p0 = 3) (C := RX3) (T := TX3) (N := 4) rfl (by decide) (by decide) (by decide) mw_fl_3_9 (fvl_i rfl) dX3_add_26 ?_
    refine m_ci v1 h9 ?_
    refine lv_iload_n E.1 E.2.1 dX3_add_29 rfl (lv_at hl 2 rfl) ?_
    refine t_iast E G 28 (at_ro (i := 2) ap0 (by decide) : ro (p0 + 2) = 28) (by decide) (by decide) rfl (n := 10) rfl (iv_vp b5 (by decide) (by decide)) dX3_add_30 (fun H locs G => ?_)
    obtain ⟨zz10, G, oo11, kk12, h13⟩ : ∃ u : TS, mG D A s H locs (wd K ad u) ∧ Ok u ∧ KC z u ∧ tI u p0 0 = v1 := ⟨_, G, ok_uc oo7 28 (at_ro (i := 2) ap0 (by decide) : ro (p0 + 2) = 28) (by decide) (iv_mono bx2 (by decide) (by decide)) (by decide), KC.tr kk8 (KC_r 28 (at_ro (i := 2) ap0 (by decide) : ro (p0 + 2) = 28) (by decide)), h9⟩
    refine lv_aload_n E.1 E.2.1 dX3_add_31 rfl (lv_at hl 0 rfl) ?_
    refine t_get E G 3 3 (at_ro (i := 0) ap0 (by decide) : ro p0 = 3) (C := RX3) (T := TX3) (N := 4) rfl (by decide) (by decide) (by decide) mw_fl_3_22 (v := .ref (ad (p0 + 3))) (fvl_o (n := 3) rfl) dX3_add_32 ?_
    refine lv_aload_n E.1 E.2.1 dX3_add_35 rfl (lv_at hl 0 rfl) ?_
    refine t_get E G 3 0 (at_ro (i := 0) ap0 (by decide) : ro p0 = 3) (C := RX3) (T := TX3) (N := 4) rfl (by decide) (by decide) (by decide) mw_fl_3_9 (fvl_i rfl) dX3_add_36 ?_
    refine m_ci v1 h13 ?_
    refine lv_iload_n E.1 E.2.1 dX3_add_39 rfl (lv_at hl 3 rfl) ?_
    refine t_iast E G 29 (at_ro (i := 3) ap0 (by decide) : ro (p0 + 3) = 29) (by decide) (by decide) rfl (n := 10) rfl (iv_vp b5 (by decide) (by decide)) dX3_add_40 (fun H locs G => ?_)
    obtain ⟨zz14, G, oo15, kk16, h17⟩ : ∃ u : TS, mG D A s H locs (wd K ad u) ∧ Ok u ∧ KC z u ∧ tI u p0 0 = v1 := ⟨_, G, ok_uc oo11 29 (at_ro (i := 3) ap0 (by decide) : ro (p0 + 3) = 29) (by decide) (iv_mono (iv_full x3) (by decide) (by decide)) (by decide), KC.tr kk12 (KC_r 29 (at_ro (i := 3) ap0 (by decide) : ro (p0 + 3) = 29) (by decide)), h13⟩
    refine lv_aload_n E.1 E.2.1 dX3_add_41 rfl (lv_at hl 0 rfl) ?_
    refine lv_dup E.1 E.2.1 dX3_add_42 rfl ?_
    refine t_get E G 3 0 (at_ro (i := 0) ap0 (by decide) : ro p0 = 3) (C := RX3) (T := TX3) (N := 4) rfl (by decide) (by decide) (by decide) mw_fl_3_9 (fvl_i rfl) dX3_add_43 ?_
    refine m_ci v1 h17 ?_
    refine lv_iconst (v := 1) E.1 E.2.1 dX3_add_46 (by decide) ?_
    refine lv_iadd E.1 E.2.1 dX3_add_47 ?_
    refine lv_topi (fun v18 e19 => ?_)
    have b20 : iv 1 10 v18 := by rw [e19]; exact iv_add b5 (iv_lit (lo := 1) (hi := 1) 1 (by decide) (by decide)) (by decide) (by decide) (by decide) (by decide)
    refine t_puti E G 3 0 (at_ro (i := 0) ap0 (by decide) : ro p0 = 3) (C := RX3) (T := TX3) (N := 4) rfl (by decide) (by decide) (by decide) rfl rfl mw_fl_3_9 rfl dX3_add_48 (fun H locs G => ?_)
    obtain ⟨zz21, G, oo22, kk23, h24⟩ : ∃ u : TS, mG D A s H locs (wd K ad u) ∧ Ok u ∧ KC z u ∧ tI u p0 0 = v18 := ⟨_, G, ok_i oo15 3 (at_ro (i := 0) ap0 (by decide) : ro p0 = 3) (iv_mono b20 (by decide) (by decide)) (by decide), KC.tr kk16 (KC_i 3 (at_ro (i := 0) ap0 (by decide) : ro p0 = 3) (by decide)), sI_self⟩
    refine lv_iconst (v := 1) E.1 E.2.1 dX3_add_51 (by decide) ?_
    exact RET G ⟨oo22, kk23, (iv_mono (iv_lit (lo := 1) (hi := 1) 1 (by decide) (by decide)) (by decide) (by decide))⟩ (by decide) dX3_add_52
  · skip
    have b25 : iv 10 10 v1 := le_r (Int32.not_lt.mp c4) (iv_lit (lo := 10) (hi := 10) 10 (by decide) (by decide)) b3 (by decide)
    refine lv_iconst (v := 0) E.1 E.2.1 dX3_add_9 (by decide) ?_
    exact RET G ⟨o, KC.rf, (iv_mono (iv_lit (lo := 0) (hi := 0) 0 (by decide) (by decide)) (by decide) (by decide))⟩ (by decide) dX3_add_10
set_option maxHeartbeats 4000000 in
set_option maxRecDepth 100000 in
theorem n_last (l : Launch) (D : va_G) (K : Nat → ClassId) (ad : Nat → Nat) (z : TS) (o : Ok z) (p0 : Nat) (ap0 : at_ 3 p0 = true) : cI l yX3_lastStep cX3_lastStep 3 .int ({ frames := 1, cells := 0, slots := 0, locals := 21 }) D K ad z [.ref (ad p0)] (fun r u => u = z ∧ iv (-1) 60 r) := by
  refine t_enterI (by decide) (Nat.le_of_ble_eq_true rfl) rfl rfl ?_
  intro p e s m args below meth c A R Q H locs ls E hfr hlo RET G hl
  have E : mE p s m meth c cX3_lastStep args 3 RX3 D K A := E
  have hl : lv_has ls 3 [(0, .ref (ad p0))] := hl
  refine lv_iconst (v := (-1)) E.1 E.2.1 dX3_lastStep_0 (by decide) ?_
  refine lv_istore_n (lv' := [(1, .int (-1)), (0, .ref (ad p0))]) E.1 E.2.1 dX3_lastStep_1 rfl hl (by decide) rfl (fun ls hl => ?_)
  refine lv_iconst (v := 0) E.1 E.2.1 dX3_lastStep_2 (by decide) ?_
  refine lv_istore_n (lv' := [(2, .int 0), (1, .int (-1)), (0, .ref (ad p0))]) E.1 E.2.1 dX3_lastStep_3 rfl hl (by decide) rfl (fun ls hl => ?_)
  have LOOP4 : ∀ n : Nat, ∀ (y1 : Int32) (y2 : Int32) (H : Heap) (locs : List Loc) (ls : Array Slot), mG D A s H locs (wd K ad z) → iv 0 10 y1 → iv (-1) 60 y2 → 10 < y1.toInt + (n : Int) → lv_has ls 3 [(2, .int y1), (1, .int y2), (0, .ref (ad p0))] → W p l e R s m args below meth c H locs 0 0 Q (F0 m 4 ls []) := by
    intro n
    induction n with
    | zero =>
      intro y1 y2 H locs ls G b7 b8 m6 hl
      exact absurd m6 (by have := b7.1; have := b7.2; omega)
    | succ n ih4 =>
      intro y1 y2 H locs ls G b7 b8 m6 hl
      refine lv_iload_n E.1 E.2.1 dX3_lastStep_4 rfl (lv_at hl 0 rfl) ?_
      refine lv_aload_n E.1 E.2.1 dX3_lastStep_5 rfl (lv_at hl 2 rfl) ?_
      refine t_get E G 3 0 (at_ro (i := 0) ap0 (by decide) : ro p0 = 3) (C := RX3) (T := TX3) (N := 4) rfl (by decide) (by decide) (by decide) mw_fl_3_9 (fvl_i rfl) dX3_lastStep_6 ?_
      refine lv_topi (fun v9 e10 => ?_)
      have b11 : iv 0 10 v9 := by rw [e10]; exact o.i 3 0 (at_ro (i := 0) ap0 (by decide) : ro p0 = 3)
      refine lv_icmp_ge (tgt := 29) E.1 E.2.1 dX3_lastStep_9 (by decide) (fun c12 => ?_) (fun c12 => ?_)
      · skip
        refine lv_iload_n E.1 E.2.1 dX3_lastStep_29 rfl (lv_at hl 1 rfl) ?_
        exact RET G ⟨rfl, (iv_mono b8 (by decide) (by decide))⟩ rfl dX3_lastStep_30
      · skip
        have b13 : iv 0 9 y1 := lt_l (Int32.not_le.mp c12) b7 b11 (by decide)
        have b14 : iv 1 10 v9 := lt_r (Int32.not_le.mp c12) b7 b11 (by decide)
        refine lv_iload_n E.1 E.2.1 dX3_lastStep_12 rfl (lv_at hl 1 rfl) ?_
        refine lv_aload_n E.1 E.2.1 dX3_lastStep_13 rfl (lv_at hl 2 rfl) ?_
        refine t_get E G 3 1 (at_ro (i := 0) ap0 (by decide) : ro p0 = 3) (C := RX3) (T := TX3) (N := 4) rfl (by decide) (by decide) (by decide) mw_fl_3_15 (v := .ref (ad (p0 + 1))) (fvl_o (n := 1) rfl) dX3_lastStep_14 ?_
        refine lv_iload_n E.1 E.2.1 dX3_lastStep_17 rfl (lv_at hl 0 rfl) ?_
        refine t_iald E G 27 (at_ro (i := 1) ap0 (by decide) : ro (p0 + 1) = 27) (by decide) (by decide) rfl (n := 10) rfl (iv_vp b13 (by decide) (by decide)) dX3_lastStep_18 ?_
        refine lv_topi (fun v15 e16 => ?_)
        have b17 : iv 0 60 v15 := by rw [e16]; exact o.ac 27 (at_ro (i := 1) ap0 (by decide) : ro (p0 + 1) = 27) (by decide) _
        refine va_mmax E.1 E.2.1 (E.2.2.1.trans hl.1.symm) E.2.2.2.1 (E.2.2.2.2.1 _ mw_ml_3_31) (E.2.2.2.2.1 _ mw_stat_max) (E.2.2.2.2.1 _ mw_ini_Math) (E.2.2.2.2.1 _ mw_code_max) (Nat.le_trans (by decide) hfr) (Nat.le_trans (Nat.le_of_ble_eq_true rfl) hlo) (Nat.zero_le _) (Nat.zero_le _) dX3_lastStep_19 ?_
        refine lv_topi (fun v18 e19 => ?_)
        have b20 : iv 0 60 v18 := by rw [e19]; exact iv_max b8 b17 (by decide) (by decide)
        refine lv_istore_n (lv' := [(1, .int v18), (2, .int y1), (0, .ref (ad p0))]) E.1 E.2.1 dX3_lastStep_22 rfl hl (by decide) rfl (fun ls hl => ?_)
        obtain ⟨v21, e22⟩ : ∃ w : Int32, w = y1 + (1 : Int32) := ⟨_, rfl⟩
        refine lv_iinc (v := v21) (lv' := [(2, .int v21), (1, .int v18), (0, .ref (ad p0))]) E.1 E.2.1 dX3_lastStep_23 hl (k := 1) rfl (by rw [e22]; rfl) (by decide) rfl (fun ls hl => ?_)
        have b23 : iv 1 10 v21 := by rw [e22]; exact iv_add b13 (iv_lit (lo := 1) (hi := 1) 1 (by decide) (by decide)) (by decide) (by decide) (by decide) (by decide)
        have t24 : v21.toInt = y1.toInt + 1 := by rw [e22]; exact ti_addc 1 (by decide) b13 (by decide) (by decide)
        refine lv_goto (tgt := 4) E.1 E.2.1 dX3_lastStep_26 (by decide) ?_
        exact ih4 v21 v18 H locs ls G (iv_mono b23 (by decide) (by decide)) (iv_mono b20 (by decide) (by decide)) (by have := t24; have := m6; omega) (lv_sub hl [0, 1, 2] rfl)
  exact LOOP4 11 0 (-1) H locs ls G (iv_mono (iv_lit (lo := 0) (hi := 0) 0 (by decide) (by decide)) (by decide) (by decide)) (iv_mono (iv_lit (lo := (-1)) (hi := (-1)) (-1) (by decide) (by decide)) (by decide) (by decide)) (by have := (iv_lit (lo := 0) (hi := 0) 0 (by decide) (by decide)).1; omega) (lv_sub hl [0, 1, 2] rfl)
set_option maxHeartbeats 4000000 in
set_option maxRecDepth 100000 in
theorem n_so (l : Launch) (D : va_G) (K : Nat → ClassId) (ad : Nat → Nat) (z : TS) (o : Ok z) (p0 : Nat) (ap0 : at_ 3 p0 = true) (p1 : Nat) (ap1 : at_ 6 p1 = true) (x1 : Int32) : cI l yX3_areSoBehind cX3_areSoBehind 4 .boolean ({ frames := 0, cells := 0, slots := 0, locals := 0 }) D K ad z [.ref (ad p0), .int x1, .ref (ad p1)] (fun r u => u = z ∧ iv 0 1 r) := by
  refine t_enterI (by decide) (Nat.le_of_ble_eq_true rfl) rfl rfl ?_
  intro p e s m args below meth c A R Q H locs ls E hfr hlo RET G hl
  have E : mE p s m meth c cX3_areSoBehind args 4 RX3 D K A := E
  have hl : lv_has ls 4 [(0, .ref (ad p0)), (1, .int x1), (2, .ref (ad p1))] := hl
  refine lv_iconst (v := 0) E.1 E.2.1 dX3_areSoBehind_0 (by decide) ?_
  refine lv_istore_n (lv' := [(3, .int 0), (0, .ref (ad p0)), (1, .int x1), (2, .ref (ad p1))]) E.1 E.2.1 dX3_areSoBehind_1 rfl hl (by decide) rfl (fun ls hl => ?_)
  have LOOP2 : ∀ n : Nat, ∀ (y1 : Int32) (H : Heap) (locs : List Loc) (ls : Array Slot), mG D A s H locs (wd K ad z) → iv 0 10 y1 → 10 < y1.toInt + (n : Int) → lv_has ls 4 [(3, .int y1), (0, .ref (ad p0)), (1, .int x1), (2, .ref (ad p1))] → W p l e R s m args below meth c H locs 0 0 Q (F0 m 2 ls []) := by
    intro n
    induction n with
    | zero =>
      intro y1 H locs ls G b6 m5 hl
      exact absurd m5 (by have := b6.1; have := b6.2; omega)
    | succ n ih2 =>
      intro y1 H locs ls G b6 m5 hl
      refine lv_iload_n E.1 E.2.1 dX3_areSoBehind_2 rfl (lv_at hl 0 rfl) ?_
      refine lv_aload_n E.1 E.2.1 dX3_areSoBehind_3 rfl (lv_at hl 1 rfl) ?_
      refine t_get E G 3 0 (at_ro (i := 0) ap0 (by decide) : ro p0 = 3) (C := RX3) (T := TX3) (N := 4) rfl (by decide) (by decide) (by decide) mw_fl_3_9 (fvl_i rfl) dX3_areSoBehind_4 ?_
      refine lv_topi (fun v7 e8 => ?_)
      have b9 : iv 0 10 v7 := by rw [e8]; exact o.i 3 0 (at_ro (i := 0) ap0 (by decide) : ro p0 = 3)
      refine lv_icmp_ge (tgt := 48) E.1 E.2.1 dX3_areSoBehind_7 (by decide) (fun c10 => ?_) (fun c10 => ?_)
      · skip
        refine lv_iconst (v := 1) E.1 E.2.1 dX3_areSoBehind_48 (by decide) ?_
        exact RET G ⟨rfl, (iv_mono (iv_lit (lo := 1) (hi := 1) 1 (by decide) (by decide)) (by decide) (by decide))⟩ (by decide) dX3_areSoBehind_49
      · skip
        have b11 : iv 0 9 y1 := lt_l (Int32.not_le.mp c10) b6 b9 (by decide)
        have b12 : iv 1 10 v7 := lt_r (Int32.not_le.mp c10) b6 b9 (by decide)
        refine lv_aload_n E.1 E.2.1 dX3_areSoBehind_10 rfl (lv_at hl 1 rfl) ?_
        refine t_get E G 3 1 (at_ro (i := 0) ap0 (by decide) : ro p0 = 3) (C := RX3) (T := TX3) (N := 4) rfl (by decide) (by decide) (by decide) mw_fl_3_15 (v := .ref (ad (p0 + 1))) (fvl_o (n := 1) rfl) dX3_areSoBehind_11 ?_
        refine lv_iload_n E.1 E.2.1 dX3_areSoBehind_14 rfl (lv_at hl 0 rfl) ?_
        refine t_iald E G 27 (at_ro (i := 1) ap0 (by decide) : ro (p0 + 1) = 27) (by decide) (by decide) rfl (n := 10) rfl (iv_vp b11 (by decide) (by decide)) dX3_areSoBehind_15 ?_
        refine lv_topi (fun v13 e14 => ?_)
        have b15 : iv 0 60 v13 := by rw [e14]; exact o.ac 27 (at_ro (i := 1) ap0 (by decide) : ro (p0 + 1) = 27) (by decide) _
        refine lv_iload_n E.1 E.2.1 dX3_areSoBehind_16 rfl (lv_at hl 2 rfl) ?_
        refine lv_icmp_ne (tgt := 42) E.1 E.2.1 dX3_areSoBehind_17 (by decide) (fun c16 => ?_) (fun c16 => ?_)
        · skip
          obtain ⟨v17, e18⟩ : ∃ w : Int32, w = y1 + (1 : Int32) := ⟨_, rfl⟩
          refine lv_iinc (v := v17) (lv' := [(3, .int v17), (0, .ref (ad p0)), (1, .int x1), (2, .ref (ad p1))]) E.1 E.2.1 dX3_areSoBehind_42 hl (k := 0) rfl (by rw [e18]; rfl) (by decide) rfl (fun ls hl => ?_)
          have b19 : iv 1 10 v17 := by rw [e18]; exact iv_add b11 (iv_lit (lo := 1) (hi := 1) 1 (by decide) (by decide)) (by decide) (by decide) (by decide) (by decide)
          have t20 : v17.toInt = y1.toInt + 1 := by rw [e18]; exact ti_addc 1 (by decide) b11 (by decide) (by decide)
          refine lv_goto (tgt := 2) E.1 E.2.1 dX3_areSoBehind_45 (by decide) ?_
          exact ih2 v17 H locs ls G (iv_mono b19 (by decide) (by decide)) (by have := t20; have := m5; omega) (lv_sub hl [0, 1, 2, 3] rfl)
        · skip
          refine lv_aload_n E.1 E.2.1 dX3_areSoBehind_20 rfl (lv_at hl 3 rfl) ?_
          refine t_get E G 6 0 (at_ro (i := 0) ap1 (by decide) : ro p1 = 6) (C := RX6) (T := TX6) (N := 8) rfl (by decide) (by decide) (by decide) mw_fl_3_37 (v := .ref (ad (p1 + 1))) (fvl_o (n := 1) rfl) dX3_areSoBehind_21 ?_
          refine lv_aload_n E.1 E.2.1 dX3_areSoBehind_24 rfl (lv_at hl 1 rfl) ?_
          refine t_get E G 3 2 (at_ro (i := 0) ap0 (by decide) : ro p0 = 3) (C := RX3) (T := TX3) (N := 4) rfl (by decide) (by decide) (by decide) mw_fl_3_19 (v := .ref (ad (p0 + 2))) (fvl_o (n := 2) rfl) dX3_areSoBehind_25 ?_
          refine lv_iload_n E.1 E.2.1 dX3_areSoBehind_28 rfl (lv_at hl 0 rfl) ?_
          refine t_iald E G 28 (at_ro (i := 2) ap0 (by decide) : ro (p0 + 2) = 28) (by decide) (by decide) rfl (n := 10) rfl (iv_vp b11 (by decide) (by decide)) dX3_areSoBehind_29 ?_
          refine lv_topi (fun v21 e22 => ?_)
          have b23 : iv 0 4 v21 := by rw [e22]; exact o.ac 28 (at_ro (i := 2) ap0 (by decide) : ro (p0 + 2) = 28) (by decide) _
          refine t_iald E G 21 (at_ro (i := 1) ap1 (by decide) : ro (p1 + 1) = 21) (by decide) (by decide) rfl (n := 5) rfl (iv_vp b23 (by decide) (by decide)) dX3_areSoBehind_30 ?_
          refine lv_topi (fun v24 e25 => ?_)
          have b26 : iv 0 7 v24 := by rw [e25]; exact o.ac 21 (at_ro (i := 1) ap1 (by decide) : ro (p1 + 1) = 21) (by decide) _
          refine lv_aload_n E.1 E.2.1 dX3_areSoBehind_31 rfl (lv_at hl 1 rfl) ?_
          refine t_get E G 3 3 (at_ro (i := 0) ap0 (by decide) : ro p0 = 3) (C := RX3) (T := TX3) (N := 4) rfl (by decide) (by decide) (by decide) mw_fl_3_22 (v := .ref (ad (p0 + 3))) (fvl_o (n := 3) rfl) dX3_areSoBehind_32 ?_
          refine lv_iload_n E.1 E.2.1 dX3_areSoBehind_35 rfl (lv_at hl 0 rfl) ?_
          refine t_iald E G 29 (at_ro (i := 3) ap0 (by decide) : ro (p0 + 3) = 29) (by decide) (by decide) rfl (n := 10) rfl (iv_vp b11 (by decide) (by decide)) dX3_areSoBehind_36 ?_
          refine lv_topi (fun v27 e28 => ?_)
          refine lv_icmp_eq (tgt := 42) E.1 E.2.1 dX3_areSoBehind_37 (by decide) (fun c29 => ?_) (fun c29 => ?_)
          · skip
            obtain ⟨v30, e31⟩ : ∃ w : Int32, w = y1 + (1 : Int32) := ⟨_, rfl⟩
            refine lv_iinc (v := v30) (lv' := [(3, .int v30), (0, .ref (ad p0)), (1, .int x1), (2, .ref (ad p1))]) E.1 E.2.1 dX3_areSoBehind_42 hl (k := 0) rfl (by rw [e31]; rfl) (by decide) rfl (fun ls hl => ?_)
            have b32 : iv 1 10 v30 := by rw [e31]; exact iv_add b11 (iv_lit (lo := 1) (hi := 1) 1 (by decide) (by decide)) (by decide) (by decide) (by decide) (by decide)
            have t33 : v30.toInt = y1.toInt + 1 := by rw [e31]; exact ti_addc 1 (by decide) b11 (by decide) (by decide)
            refine lv_goto (tgt := 2) E.1 E.2.1 dX3_areSoBehind_45 (by decide) ?_
            exact ih2 v30 H locs ls G (iv_mono b32 (by decide) (by decide)) (by have := t33; have := m5; omega) (lv_sub hl [0, 1, 2, 3] rfl)
          · skip
            refine lv_iconst (v := 0) E.1 E.2.1 dX3_areSoBehind_40 (by decide) ?_
            exact RET G ⟨rfl, (iv_mono (iv_lit (lo := 0) (hi := 0) 0 (by decide) (by decide)) (by decide) (by decide))⟩ (by decide) dX3_areSoBehind_41
  exact LOOP2 11 0 H locs ls G (iv_mono (iv_lit (lo := 0) (hi := 0) 0 (by decide) (by decide)) (by decide) (by decide)) (by have := (iv_lit (lo := 0) (hi := 0) 0 (by decide) (by decide)).1; omega) (lv_sub hl [0, 1, 2, 3] rfl)
