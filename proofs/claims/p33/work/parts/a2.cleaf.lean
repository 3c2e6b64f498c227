theorem mw_ml_3_3 : (Cond.methodLink RX3 3 Lib.objectInit : Cond) ∈ cw := cw_of (List.mem_append_right _ (List.mem_append_right _ (List.mem_append_left _ (List.mem_of_getElem? (i := 36) (by decide +kernel))))) (by decide +kernel)
theorem mw_ml_4_3 : (Cond.methodLink RX4 3 Lib.objectInit : Cond) ∈ cw := cw_of (List.mem_append_right _ (List.mem_append_left _ (List.mem_of_getElem? (i := 205) (by decide +kernel)))) (by decide +kernel)
theorem mw_ml_6_3 : (Cond.methodLink RX6 3 Lib.objectInit : Cond) ∈ cw := cw_of (List.mem_append_right _ (List.mem_append_left _ (List.mem_of_getElem? (i := 85) (by decide +kernel)))) (by decide +kernel)
theorem mw_ml_7_3 : (Cond.methodLink RX7 3 Lib.objectInit : Cond) ∈ cw := cw_of (List.mem_append_right _ (List.mem_append_left _ (List.mem_of_getElem? (i := 34) (by decide +kernel)))) (by decide +kernel)
theorem dX3_init_0 : decode cX3_init 0 = .ok (.aload_n 0, 1) := by decide +kernel
theorem dX3_init_1 : decode cX3_init 1 = .ok (.invokespecial 3, 3) := by decide +kernel
theorem dX3_init_4 : decode cX3_init 4 = .ok (.aload_n 0, 1) := by decide +kernel
theorem dX3_init_5 : decode cX3_init 5 = .ok (.iconst 0, 1) := by decide +kernel
theorem dX3_init_6 : decode cX3_init 6 = .ok (.putfield 9, 3) := by decide +kernel
theorem dX3_init_9 : decode cX3_init 9 = .ok (.aload_n 0, 1) := by decide +kernel
theorem dX3_init_10 : decode cX3_init 10 = .ok (.bipush 10, 2) := by decide +kernel
theorem dX3_init_12 : decode cX3_init 12 = .ok (.newarray .int, 2) := by decide +kernel
theorem dX3_init_14 : decode cX3_init 14 = .ok (.putfield 15, 3) := by decide +kernel
theorem dX3_init_17 : decode cX3_init 17 = .ok (.aload_n 0, 1) := by decide +kernel
theorem dX3_init_18 : decode cX3_init 18 = .ok (.bipush 10, 2) := by decide +kernel
theorem dX3_init_20 : decode cX3_init 20 = .ok (.newarray .int, 2) := by decide +kernel
theorem dX3_init_22 : decode cX3_init 22 = .ok (.putfield 19, 3) := by decide +kernel
theorem dX3_init_25 : decode cX3_init 25 = .ok (.aload_n 0, 1) := by decide +kernel
theorem dX3_init_26 : decode cX3_init 26 = .ok (.bipush 10, 2) := by decide +kernel
theorem dX3_init_28 : decode cX3_init 28 = .ok (.newarray .int, 2) := by decide +kernel
theorem dX3_init_30 : decode cX3_init 30 = .ok (.putfield 22, 3) := by decide +kernel
theorem dX3_init_33 : decode cX3_init 33 = .ok (.return_, 1) := by decide +kernel
theorem dX4_init_0 : decode cX4_init 0 = .ok (.aload_n 0, 1) := by decide +kernel
theorem dX4_init_1 : decode cX4_init 1 = .ok (.invokespecial 3, 3) := by decide +kernel
theorem dX4_init_4 : decode cX4_init 4 = .ok (.aload_n 0, 1) := by decide +kernel
theorem dX4_init_5 : decode cX4_init 5 = .ok (.iconst 0, 1) := by decide +kernel
theorem dX4_init_6 : decode cX4_init 6 = .ok (.putfield 9, 3) := by decide +kernel
theorem dX4_init_9 : decode cX4_init 9 = .ok (.aload_n 0, 1) := by decide +kernel
theorem dX4_init_10 : decode cX4_init 10 = .ok (.sipush 400, 3) := by decide +kernel
theorem dX4_init_13 : decode cX4_init 13 = .ok (.newarray .int, 2) := by decide +kernel
theorem dX4_init_15 : decode cX4_init 15 = .ok (.putfield 15, 3) := by decide +kernel
theorem dX4_init_18 : decode cX4_init 18 = .ok (.aload_n 0, 1) := by decide +kernel
theorem dX4_init_19 : decode cX4_init 19 = .ok (.iconst 0, 1) := by decide +kernel
theorem dX4_init_20 : decode cX4_init 20 = .ok (.putfield 19, 3) := by decide +kernel
theorem dX4_init_23 : decode cX4_init 23 = .ok (.aload_n 0, 1) := by decide +kernel
theorem dX4_init_24 : decode cX4_init 24 = .ok (.bipush 13, 2) := by decide +kernel
theorem dX4_init_26 : decode cX4_init 26 = .ok (.newarray .int, 2) := by decide +kernel
theorem dX4_init_28 : decode cX4_init 28 = .ok (.putfield 22, 3) := by decide +kernel
theorem dX4_init_31 : decode cX4_init 31 = .ok (.aload_n 0, 1) := by decide +kernel
theorem dX4_init_32 : decode cX4_init 32 = .ok (.bipush 13, 2) := by decide +kernel
theorem dX4_init_34 : decode cX4_init 34 = .ok (.newarray .int, 2) := by decide +kernel
theorem dX4_init_36 : decode cX4_init 36 = .ok (.putfield 25, 3) := by decide +kernel
theorem dX4_init_39 : decode cX4_init 39 = .ok (.aload_n 0, 1) := by decide +kernel
theorem dX4_init_40 : decode cX4_init 40 = .ok (.bipush 61, 2) := by decide +kernel
theorem dX4_init_42 : decode cX4_init 42 = .ok (.newarray .long, 2) := by decide +kernel
theorem dX4_init_44 : decode cX4_init 44 = .ok (.putfield 28, 3) := by decide +kernel
theorem dX4_init_47 : decode cX4_init 47 = .ok (.return_, 1) := by decide +kernel
theorem dX6_init_0 : decode cX6_init 0 = .ok (.aload_n 0, 1) := by decide +kernel
theorem dX6_init_1 : decode cX6_init 1 = .ok (.invokespecial 3, 3) := by decide +kernel
theorem dX6_init_4 : decode cX6_init 4 = .ok (.aload_n 0, 1) := by decide +kernel
theorem dX6_init_5 : decode cX6_init 5 = .ok (.iconst 5, 1) := by decide +kernel
theorem dX6_init_6 : decode cX6_init 6 = .ok (.newarray .int, 2) := by decide +kernel
theorem dX6_init_8 : decode cX6_init 8 = .ok (.putfield 9, 3) := by decide +kernel
theorem dX6_init_11 : decode cX6_init 11 = .ok (.aload_n 0, 1) := by decide +kernel
theorem dX6_init_12 : decode cX6_init 12 = .ok (.iconst 5, 1) := by decide +kernel
theorem dX6_init_13 : decode cX6_init 13 = .ok (.newarray .int, 2) := by decide +kernel
theorem dX6_init_15 : decode cX6_init 15 = .ok (.putfield 15, 3) := by decide +kernel
theorem dX6_init_18 : decode cX6_init 18 = .ok (.aload_n 0, 1) := by decide +kernel
theorem dX6_init_19 : decode cX6_init 19 = .ok (.iconst 5, 1) := by decide +kernel
theorem dX6_init_20 : decode cX6_init 20 = .ok (.newarray .int, 2) := by decide +kernel
theorem dX6_init_22 : decode cX6_init 22 = .ok (.putfield 18, 3) := by decide +kernel
theorem dX6_init_25 : decode cX6_init 25 = .ok (.aload_n 0, 1) := by decide +kernel
theorem dX6_init_26 : decode cX6_init 26 = .ok (.iconst 5, 1) := by decide +kernel
theorem dX6_init_27 : decode cX6_init 27 = .ok (.newarray .int, 2) := by decide +kernel
theorem dX6_init_29 : decode cX6_init 29 = .ok (.putfield 21, 3) := by decide +kernel
theorem dX6_init_32 : decode cX6_init 32 = .ok (.aload_n 0, 1) := by decide +kernel
theorem dX6_init_33 : decode cX6_init 33 = .ok (.bipush 6, 2) := by decide +kernel
theorem dX6_init_35 : decode cX6_init 35 = .ok (.newarray .int, 2) := by decide +kernel
theorem dX6_init_37 : decode cX6_init 37 = .ok (.putfield 24, 3) := by decide +kernel
theorem dX6_init_40 : decode cX6_init 40 = .ok (.aload_n 0, 1) := by decide +kernel
theorem dX6_init_41 : decode cX6_init 41 = .ok (.bipush 6, 2) := by decide +kernel
theorem dX6_init_43 : decode cX6_init 43 = .ok (.newarray .int, 2) := by decide +kernel
theorem dX6_init_45 : decode cX6_init 45 = .ok (.putfield 27, 3) := by decide +kernel
theorem dX6_init_48 : decode cX6_init 48 = .ok (.aload_n 0, 1) := by decide +kernel
theorem dX6_init_49 : decode cX6_init 49 = .ok (.iconst 0, 1) := by decide +kernel
theorem dX6_init_50 : decode cX6_init 50 = .ok (.putfield 30, 3) := by decide +kernel
theorem dX6_init_53 : decode cX6_init 53 = .ok (.aload_n 0, 1) := by decide +kernel
theorem dX6_init_54 : decode cX6_init 54 = .ok (.iconst 0, 1) := by decide +kernel
theorem dX6_init_55 : decode cX6_init 55 = .ok (.putfield 34, 3) := by decide +kernel
theorem dX6_init_58 : decode cX6_init 58 = .ok (.return_, 1) := by decide +kernel
theorem dX7_init_0 : decode cX7_init 0 = .ok (.aload_n 0, 1) := by decide +kernel
theorem dX7_init_1 : decode cX7_init 1 = .ok (.invokespecial 3, 3) := by decide +kernel
theorem dX7_init_4 : decode cX7_init 4 = .ok (.aload_n 0, 1) := by decide +kernel
theorem dX7_init_5 : decode cX7_init 5 = .ok (.sipush 400, 3) := by decide +kernel
theorem dX7_init_8 : decode cX7_init 8 = .ok (.newarray .byte, 2) := by decide +kernel
theorem dX7_init_10 : decode cX7_init 10 = .ok (.putfield 9, 3) := by decide +kernel
theorem dX7_init_13 : decode cX7_init 13 = .ok (.aload_n 0, 1) := by decide +kernel
theorem dX7_init_14 : decode cX7_init 14 = .ok (.iconst 0, 1) := by decide +kernel
theorem dX7_init_15 : decode cX7_init 15 = .ok (.putfield 15, 3) := by decide +kernel
theorem dX7_init_18 : decode cX7_init 18 = .ok (.aload_n 0, 1) := by decide +kernel
theorem dX7_init_19 : decode cX7_init 19 = .ok (.iconst 0, 1) := by decide +kernel
theorem dX7_init_20 : decode cX7_init 20 = .ok (.putfield 19, 3) := by decide +kernel
theorem dX7_init_23 : decode cX7_init 23 = .ok (.aload_n 0, 1) := by decide +kernel
theorem dX7_init_24 : decode cX7_init 24 = .ok (.bipush 40, 2) := by decide +kernel
theorem dX7_init_26 : decode cX7_init 26 = .ok (.putfield 22, 3) := by decide +kernel
theorem dX7_init_29 : decode cX7_init 29 = .ok (.aload_n 0, 1) := by decide +kernel
theorem dX7_init_30 : decode cX7_init 30 = .ok (.iconst 0, 1) := by decide +kernel
theorem dX7_init_31 : decode cX7_init 31 = .ok (.putfield 25, 3) := by decide +kernel
theorem dX7_init_34 : decode cX7_init 34 = .ok (.aload_n 0, 1) := by decide +kernel
theorem dX7_init_35 : decode cX7_init 35 = .ok (.iconst 0, 1) := by decide +kernel
theorem dX7_init_36 : decode cX7_init 36 = .ok (.putfield 28, 3) := by decide +kernel
theorem dX7_init_39 : decode cX7_init 39 = .ok (.aload_n 0, 1) := by decide +kernel
theorem dX7_init_40 : decode cX7_init 40 = .ok (.iconst 0, 1) := by decide +kernel
theorem dX7_init_41 : decode cX7_init 41 = .ok (.putfield 31, 3) := by decide +kernel
theorem dX7_init_44 : decode cX7_init 44 = .ok (.return_, 1) := by decide +kernel
set_option maxHeartbeats 4000000 in
set_option maxRecDepth 100000 in
theorem n_State (l : Launch) (D : va_G) (K : Nat → ClassId) (pp : Nat) (app : at_ 6 pp = true) (h0 : Nat) : mV (S := Nat → Nat) l yX6_init cX6_init 1 ({ frames := 1, cells := 6, slots := 32, locals := 20 }) D K [(h0, .inr (6, [.null, .null, .null, .null, .null, .null, .int 0, .int 0]))] [.ref h0] (fun g => g pp = h0) (fun g => Bk K pp 7 g) := by
  refine m_enterV (by decide) (Nat.le_of_ble_eq_true rfl) ?_
  intro p e s m args below meth c A ls E hr hN G hl
  have E : mE p s m meth c cX6_init args 1 RX6 D K A := E
  have hl : lv_has ls 1 [(0, .ref h0)] := hl
  obtain ⟨H, hH⟩ : ∃ H, H = s.heap := ⟨_, rfl⟩
  obtain ⟨locs, hlo⟩ : ∃ L : List Loc, L = [] := ⟨_, rfl⟩
  rw [← hH, ← hlo] at G
  rw [← hH, ← hlo]
  clear hH hlo
  obtain ⟨ac0, hac0⟩ : ∃ w : va_W, w = [] := ⟨_, rfl⟩
  have G : mG D A s H locs ((h0, .inr (6, [.null, .null, .null, .null, .null, .null, .int 0, .int 0])) :: ac0) := by rw [hac0]; exact G
  refine lv_aload_n E.1 E.2.1 dX6_init_0 rfl (lv_at hl 0 rfl) ?_
  refine m_objInit E hl mw_ml_6_3 dX6_init_1 (by decide) (Nat.le_of_ble_eq_true rfl) (by decide) ?_
  refine lv_aload_n E.1 E.2.1 dX6_init_4 rfl (lv_at hl 0 rfl) ?_
  refine lv_iconst (v := 5) E.1 E.2.1 dX6_init_5 (by decide) ?_
  refine m_newi E G (N' := 5) (by decide) (by decide) (by decide) (by decide) (by decide) dX6_init_6 (fun q1 H G => ?_)
  obtain ⟨ac2, hac2⟩ : ∃ w : va_W, w = ac0 ++ [(q1, .inl (K 0, 5, .inl (fun _ => 0)))] := ⟨_, rfl⟩
  have G : mG D A s H locs ((h0, .inr (6, [.null, .null, .null, .null, .null, .null, .int 0, .int 0])) :: ac2) := by rw [hac2]; exact G
  refine m_putF E G hN 0 (ci := 6) rfl 0 (C := RX6) (T := TX6) (N := 8) rfl (by decide) mw_fl_6_9 rfl rfl rfl rfl (Nat.le_of_ble_eq_true rfl) dX6_init_8 (fun H locs G => ?_)
  have G : mG D A s H locs ((h0, .inr (6, [.ref q1, .null, .null, .null, .null, .null, .int 0, .int 0])) :: ac2) := G
  refine lv_aload_n E.1 E.2.1 dX6_init_11 rfl (lv_at hl 0 rfl) ?_
  refine lv_iconst (v := 5) E.1 E.2.1 dX6_init_12 (by decide) ?_
  refine m_newi E G (N' := 5) (by decide) (by decide) (by decide) (by decide) (by decide) dX6_init_13 (fun q3 H G => ?_)
  obtain ⟨ac4, hac4⟩ : ∃ w : va_W, w = ac2 ++ [(q3, .inl (K 0, 5, .inl (fun _ => 0)))] := ⟨_, rfl⟩
  have G : mG D A s H locs ((h0, .inr (6, [.ref q1, .null, .null, .null, .null, .null, .int 0, .int 0])) :: ac4) := by rw [hac4]; exact G
  refine m_putF E G hN 0 (ci := 6) rfl 1 (C := RX6) (T := TX6) (N := 8) rfl (by decide) mw_fl_6_15 rfl rfl rfl rfl (Nat.le_of_ble_eq_true rfl) dX6_init_15 (fun H locs G => ?_)
  have G : mG D A s H locs ((h0, .inr (6, [.ref q1, .ref q3, .null, .null, .null, .null, .int 0, .int 0])) :: ac4) := G
  refine lv_aload_n E.1 E.2.1 dX6_init_18 rfl (lv_at hl 0 rfl) ?_
  refine lv_iconst (v := 5) E.1 E.2.1 dX6_init_19 (by decide) ?_
  refine m_newi E G (N' := 5) (by decide) (by decide) (by decide) (by decide) (by decide) dX6_init_20 (fun q5 H G => ?_)
  obtain ⟨ac6, hac6⟩ : ∃ w : va_W, w = ac4 ++ [(q5, .inl (K 0, 5, .inl (fun _ => 0)))] := ⟨_, rfl⟩
  have G : mG D A s H locs ((h0, .inr (6, [.ref q1, .ref q3, .null, .null, .null, .null, .int 0, .int 0])) :: ac6) := by rw [hac6]; exact G
  refine m_putF E G hN 0 (ci := 6) rfl 2 (C := RX6) (T := TX6) (N := 8) rfl (by decide) mw_fl_6_18 rfl rfl rfl rfl (Nat.le_of_ble_eq_true rfl) dX6_init_22 (fun H locs G => ?_)
  have G : mG D A s H locs ((h0, .inr (6, [.ref q1, .ref q3, .ref q5, .null, .null, .null, .int 0, .int 0])) :: ac6) := G
  refine lv_aload_n E.1 E.2.1 dX6_init_25 rfl (lv_at hl 0 rfl) ?_
  refine lv_iconst (v := 5) E.1 E.2.1 dX6_init_26 (by decide) ?_
  refine m_newi E G (N' := 5) (by decide) (by decide) (by decide) (by decide) (by decide) dX6_init_27 (fun q7 H G => ?_)
  obtain ⟨ac8, hac8⟩ : ∃ w : va_W, w = ac6 ++ [(q7, .inl (K 0, 5, .inl (fun _ => 0)))] := ⟨_, rfl⟩
  have G : mG D A s H locs ((h0, .inr (6, [.ref q1, .ref q3, .ref q5, .null, .null, .null, .int 0, .int 0])) :: ac8) := by rw [hac8]; exact G
  refine m_putF E G hN 0 (ci := 6) rfl 3 (C := RX6) (T := TX6) (N := 8) rfl (by decide) mw_fl_6_21 rfl rfl rfl rfl (Nat.le_of_ble_eq_true rfl) dX6_init_29 (fun H locs G => ?_)
  have G : mG D A s H locs ((h0, .inr (6, [.ref q1, .ref q3, .ref q5, .ref q7, .null, .null, .int 0, .int 0])) :: ac8) := G
  refine lv_aload_n E.1 E.2.1 dX6_init_32 rfl (lv_at hl 0 rfl) ?_
  refine lv_bipush (v := 6) E.1 E.2.1 dX6_init_33 (by decide) ?_
  refine m_newi E G (N' := 6) (by decide) (by decide) (by decide) (by decide) (by decide) dX6_init_35 (fun q9 H G => ?_)
  obtain ⟨ac10, hac10⟩ : ∃ w : va_W, w = ac8 ++ [(q9, .inl (K 0, 6, .inl (fun _ => 0)))] := ⟨_, rfl⟩
  have G : mG D A s H locs ((h0, .inr (6, [.ref q1, .ref q3, .ref q5, .ref q7, .null, .null, .int 0, .int 0])) :: ac10) := by rw [hac10]; exact G
  refine m_putF E G hN 0 (ci := 6) rfl 4 (C := RX6) (T := TX6) (N := 8) rfl (by decide) mw_fl_6_24 rfl rfl rfl rfl (Nat.le_of_ble_eq_true rfl) dX6_init_37 (fun H locs G => ?_)
  have G : mG D A s H locs ((h0, .inr (6, [.ref q1, .ref q3, .ref q5, .ref q7, .ref q9, .null, .int 0, .int 0])) :: ac10) := G
  refine lv_aload_n E.1 E.2.1 dX6_init_40 rfl (lv_at hl 0 rfl) ?_
  refine lv_bipush (v := 6) E.1 E.2.1 dX6_init_41 (by decide) ?_
  refine m_newi E G (N' := 6) (by decide) (by decide) (by decide) (by decide) (by decide) dX6_init_43 (fun q11 H G => ?_)
  obtain ⟨ac12, hac12⟩ : ∃ w : va_W, w = ac10 ++ [(q11, .inl (K 0, 6, .inl (fun _ => 0)))] := ⟨_, rfl⟩
  have G : mG D A s H locs ((h0, .inr (6, [.ref q1, .ref q3, .ref q5, .ref q7, .ref q9, .null, .int 0, .int 0])) :: ac12) := by rw [hac12]; exact G
  refine m_putF E G hN 0 (ci := 6) rfl 5 (C := RX6) (T := TX6) (N := 8) rfl (by decide) mw_fl_6_27 rfl rfl rfl rfl (Nat.le_of_ble_eq_true rfl) dX6_init_45 (fun H locs G => ?_)
  have G : mG D A s H locs ((h0, .inr (6, [.ref q1, .ref q3, .ref q5, .ref q7, .ref q9, .ref q11, .int 0, .int 0])) :: ac12) := G
  refine lv_aload_n E.1 E.2.1 dX6_init_48 rfl (lv_at hl 0 rfl) ?_
  refine lv_iconst (v := 0) E.1 E.2.1 dX6_init_49 (by decide) ?_
  refine m_put E G 0 (ci := 6) rfl 6 (C := RX6) (T := TX6) (N := 8) rfl (by decide) mw_fl_6_30 rfl rfl rfl (Nat.le_of_ble_eq_true rfl) dX6_init_50 (fun H locs G => ?_)
  have G : mG D A s H locs ((h0, .inr (6, [.ref q1, .ref q3, .ref q5, .ref q7, .ref q9, .ref q11, .int 0, .int 0])) :: ac12) := G
  refine lv_aload_n E.1 E.2.1 dX6_init_53 rfl (lv_at hl 0 rfl) ?_
  refine lv_iconst (v := 0) E.1 E.2.1 dX6_init_54 (by decide) ?_
  refine m_put E G 0 (ci := 6) rfl 7 (C := RX6) (T := TX6) (N := 8) rfl (by decide) mw_fl_6_34 rfl rfl rfl (Nat.le_of_ble_eq_true rfl) dX6_init_55 (fun H locs G => ?_)
  have G : mG D A s H locs ((h0, .inr (6, [.ref q1, .ref q3, .ref q5, .ref q7, .ref q9, .ref q11, .int 0, .int 0])) :: ac12) := G
  obtain ⟨X0, hX0⟩ : ∃ x : va_W, x = ([(h0, .inr (6, [.ref q1, .ref q3, .ref q5, .ref q7, .ref q9, .ref q11, .int 0, .int 0]))] : va_W) := ⟨_, rfl⟩
  obtain ⟨g, hq13, hq14, hq15, hq16, hq17, hq18, hq19⟩ : ∃ g : Nat → Nat, g pp = h0 ∧ g (pp + 1) = q1 ∧ g (pp + 2) = q3 ∧ g (pp + 3) = q5 ∧ g (pp + 4) = q7 ∧ g (pp + 5) = q9 ∧ g (pp + 6) = q11 := by
    refine ⟨fun j => if j < (pp + 1) then h0 else if j < (pp + 2) then q1 else if j < (pp + 3) then q3 else if j < (pp + 4) then q5 else if j < (pp + 5) then q7 else if j < (pp + 6) then q9 else q11, ?_, ?_, ?_, ?_, ?_, ?_, ?_⟩
    · exact (if_pos (by omega))
    · exact ((if_neg (by omega)).trans (if_pos (by omega)))
    · exact ((if_neg (by omega)).trans ((if_neg (by omega)).trans (if_pos (by omega))))
    · exact ((if_neg (by omega)).trans ((if_neg (by omega)).trans ((if_neg (by omega)).trans (if_pos (by omega)))))
    · exact ((if_neg (by omega)).trans ((if_neg (by omega)).trans ((if_neg (by omega)).trans ((if_neg (by omega)).trans (if_pos (by omega))))))
    · exact ((if_neg (by omega)).trans ((if_neg (by omega)).trans ((if_neg (by omega)).trans ((if_neg (by omega)).trans ((if_neg (by omega)).trans (if_pos (by omega)))))))
    · exact ((if_neg (by omega)).trans ((if_neg (by omega)).trans ((if_neg (by omega)).trans ((if_neg (by omega)).trans ((if_neg (by omega)).trans (if_neg (by omega)))))))
  have hW : ((h0, .inr (6, [.ref q1, .ref q3, .ref q5, .ref q7, .ref q9, .ref q11, .int 0, .int 0])) :: ac12) = X0 ++ (([(q1, .inl (K 0, 5, .inl (fun _ => 0)))] : va_W) ++ (([(q3, .inl (K 0, 5, .inl (fun _ => 0)))] : va_W) ++ (([(q5, .inl (K 0, 5, .inl (fun _ => 0)))] : va_W) ++ (([(q7, .inl (K 0, 5, .inl (fun _ => 0)))] : va_W) ++ (([(q9, .inl (K 0, 6, .inl (fun _ => 0)))] : va_W) ++ (([(q11, .inl (K 0, 6, .inl (fun _ => 0)))] : va_W) ++ ([]))))))) := by
    rw [hX0, hac12, hac10, hac8, hac6, hac4, hac2, hac0]
    simp only [List.nil_append, List.append_nil, List.append_assoc, List.cons_append]
  have hP : List.Perm (X0 ++ (([(q1, .inl (K 0, 5, .inl (fun _ => 0)))] : va_W) ++ (([(q3, .inl (K 0, 5, .inl (fun _ => 0)))] : va_W) ++ (([(q5, .inl (K 0, 5, .inl (fun _ => 0)))] : va_W) ++ (([(q7, .inl (K 0, 5, .inl (fun _ => 0)))] : va_W) ++ (([(q9, .inl (K 0, 6, .inl (fun _ => 0)))] : va_W) ++ (([(q11, .inl (K 0, 6, .inl (fun _ => 0)))] : va_W) ++ ([]))))))) : va_W) (X0 ++ (([(q1, .inl (K 0, 5, .inl (fun _ => 0)))] : va_W) ++ (([(q3, .inl (K 0, 5, .inl (fun _ => 0)))] : va_W) ++ (([(q5, .inl (K 0, 5, .inl (fun _ => 0)))] : va_W) ++ (([(q7, .inl (K 0, 5, .inl (fun _ => 0)))] : va_W) ++ (([(q9, .inl (K 0, 6, .inl (fun _ => 0)))] : va_W) ++ (([(q11, .inl (K 0, 6, .inl (fun _ => 0)))] : va_W) ++ ([]))))))) : va_W) := pm_of (f := fun i => ([X0, ([(q1, .inl (K 0, 5, .inl (fun _ => 0)))] : va_W), ([(q3, .inl (K 0, 5, .inl (fun _ => 0)))] : va_W), ([(q5, .inl (K 0, 5, .inl (fun _ => 0)))] : va_W), ([(q7, .inl (K 0, 5, .inl (fun _ => 0)))] : va_W), ([(q9, .inl (K 0, 6, .inl (fun _ => 0)))] : va_W), ([(q11, .inl (K 0, 6, .inl (fun _ => 0)))] : va_W)] : List va_W).getD i []) (m := 7) (π := [0, 1, 2, 3, 4, 5, 6]) (by decide)
  have tt20 : Bk K pp 1 g = X0 := by
    rw [hX0, Bk_one, cf_o (j := pp) (ci := 6) (at_ro (i := 0) app (by decide) : ro pp = 6) (by decide)]
    show ([(g pp, .inr (6, [.ref (g (pp + 1)), .ref (g (pp + 2)), .ref (g (pp + 3)), .ref (g (pp + 4)), .ref (g (pp + 5)), .ref (g (pp + 6)), .int 0, .int 0]))] : va_W) = _
    rw [hq13, hq14, hq15, hq16, hq17, hq18, hq19]
  have tt21 : Bk K (pp + 1) 1 g = ([(q1, .inl (K 0, 5, .inl (fun _ => 0)))] : va_W) := by rw [Bk_one, hq14, cf_r (j := (pp + 1)) (r := 21) (at_ro (i := 1) app (by decide) : ro (pp + 1) = 21) (by decide), show akN 21 = 5 by decide +kernel, show akK 21 = 0 by decide +kernel]; rfl
  have tt22 : Bk K (pp + 2) 1 g = ([(q3, .inl (K 0, 5, .inl (fun _ => 0)))] : va_W) := by rw [Bk_one, hq15, cf_r (j := (pp + 2)) (r := 22) (at_ro (i := 2) app (by decide) : ro (pp + 2) = 22) (by decide), show akN 22 = 5 by decide +kernel, show akK 22 = 0 by decide +kernel]; rfl
  have tt23 : Bk K (pp + 3) 1 g = ([(q5, .inl (K 0, 5, .inl (fun _ => 0)))] : va_W) := by rw [Bk_one, hq16, cf_r (j := (pp + 3)) (r := 22) (at_ro (i := 3) app (by decide) : ro (pp + 3) = 22) (by decide), show akN 22 = 5 by decide +kernel, show akK 22 = 0 by decide +kernel]; rfl
  have tt24 : Bk K (pp + 4) 1 g = ([(q7, .inl (K 0, 5, .inl (fun _ => 0)))] : va_W) := by rw [Bk_one, hq17, cf_r (j := (pp + 4)) (r := 22) (at_ro (i := 4) app (by decide) : ro (pp + 4) = 22) (by decide), show akN 22 = 5 by decide +kernel, show akK 22 = 0 by decide +kernel]; rfl
  have tt25 : Bk K (pp + 5) 1 g = ([(q9, .inl (K 0, 6, .inl (fun _ => 0)))] : va_W) := by rw [Bk_one, hq18, cf_r (j := (pp + 5)) (r := 23) (at_ro (i := 5) app (by decide) : ro (pp + 5) = 23) (by decide), show akN 23 = 6 by decide +kernel, show akK 23 = 0 by decide +kernel]; rfl
  have tt26 : Bk K (pp + 6) 1 g = ([(q11, .inl (K 0, 6, .inl (fun _ => 0)))] : va_W) := by rw [Bk_one, hq19, cf_r (j := (pp + 6)) (r := 23) (at_ro (i := 6) app (by decide) : ro (pp + 6) = 23) (by decide), show akN 23 = 6 by decide +kernel, show akK 23 = 0 by decide +kernel]; rfl
  have ss27 : Bk K pp 7 g = Bk K pp 1 g ++ Bk K (pp + 1) 6 g := Bk_split pp 1 6
  have ss28 : Bk K (pp + 1) 6 g = Bk K (pp + 1) 1 g ++ Bk K (pp + 2) 5 g := Bk_split (pp + 1) 1 5
  have ss29 : Bk K (pp + 2) 5 g = Bk K (pp + 2) 1 g ++ Bk K (pp + 3) 4 g := Bk_split (pp + 2) 1 4
  have ss30 : Bk K (pp + 3) 4 g = Bk K (pp + 3) 1 g ++ Bk K (pp + 4) 3 g := Bk_split (pp + 3) 1 3
  have ss31 : Bk K (pp + 4) 3 g = Bk K (pp + 4) 1 g ++ Bk K (pp + 5) 2 g := Bk_split (pp + 4) 1 2
  have ss32 : Bk K (pp + 5) 2 g = Bk K (pp + 5) 1 g ++ Bk K (pp + 6) 1 g := Bk_split (pp + 5) 1 1
  have ss33 : Bk K (pp + 6) 1 g = Bk K (pp + 6) 1 g ++ Bk K (pp + 7) 0 g := Bk_split (pp + 6) 1 0
  have hB34 : Bk K pp 7 g = X0 ++ (([(q1, .inl (K 0, 5, .inl (fun _ => 0)))] : va_W) ++ (([(q3, .inl (K 0, 5, .inl (fun _ => 0)))] : va_W) ++ (([(q5, .inl (K 0, 5, .inl (fun _ => 0)))] : va_W) ++ (([(q7, .inl (K 0, 5, .inl (fun _ => 0)))] : va_W) ++ (([(q9, .inl (K 0, 6, .inl (fun _ => 0)))] : va_W) ++ (([(q11, .inl (K 0, 6, .inl (fun _ => 0)))] : va_W) ++ ([]))))))) := by rw [ss27, tt20, ss28, tt21, ss29, tt22, ss30, tt23, ss31, tt24, ss32, tt25, ss33, tt26, Bk_nil]
  have hB : X0 ++ (([(q1, .inl (K 0, 5, .inl (fun _ => 0)))] : va_W) ++ (([(q3, .inl (K 0, 5, .inl (fun _ => 0)))] : va_W) ++ (([(q5, .inl (K 0, 5, .inl (fun _ => 0)))] : va_W) ++ (([(q7, .inl (K 0, 5, .inl (fun _ => 0)))] : va_W) ++ (([(q9, .inl (K 0, 6, .inl (fun _ => 0)))] : va_W) ++ (([(q11, .inl (K 0, 6, .inl (fun _ => 0)))] : va_W) ++ ([]))))))) = Bk K pp 7 g := by
    rw [hB34]
    try simp only [List.append_assoc, List.append_nil, List.nil_append, List.cons_append]
  rw [hW] at G
  have hP := hP.trans (List.Perm.of_eq hB)
  exact n_retv E G hr g hq13 hP (by decide) (by decide) dX6_init_58
set_option maxHeartbeats 4000000 in
set_option maxRecDepth 100000 in
theorem n_Tape (l : Launch) (D : va_G) (K : Nat → ClassId) (pp : Nat) (app : at_ 7 pp = true) (h0 : Nat) : mV (S := Nat → Nat) l yX7_init cX7_init 1 ({ frames := 1, cells := 1, slots := 400, locals := 20 }) D K [(h0, .inr (7, [.null, .int 0, .int 0, .int 0, .int 0, .int 0, .int 0]))] [.ref h0] (fun g => g pp = h0) (fun g => Bk K pp 2 g) := by
  refine m_enterV (by decide) (Nat.le_of_ble_eq_true rfl) ?_
  intro p e s m args below meth c A ls E hr hN G hl
  have E : mE p s m meth c cX7_init args 1 RX7 D K A := E
  have hl : lv_has ls 1 [(0, .ref h0)] := hl
  obtain ⟨H, hH⟩ : ∃ H, H = s.heap := ⟨_, rfl⟩
  obtain ⟨locs, hlo⟩ : ∃ L : List Loc, L = [] := ⟨_, rfl⟩
  rw [← hH, ← hlo] at G
  rw [← hH, ← hlo]
  clear hH hlo
  obtain ⟨ac0, hac0⟩ : ∃ w : va_W, w = [] := ⟨_, rfl⟩
  have G : mG D A s H locs ((h0, .inr (7, [.null, .int 0, .int 0, .int 0, .int 0, .int 0, .int 0])) :: ac0) := by rw [hac0]; exact G
  refine lv_aload_n E.1 E.2.1 dX7_init_0 rfl (lv_at hl 0 rfl) ?_
  refine m_objInit E hl mw_ml_7_3 dX7_init_1 (by decide) (Nat.le_of_ble_eq_true rfl) (by decide) ?_
  refine lv_aload_n E.1 E.2.1 dX7_init_4 rfl (lv_at hl 0 rfl) ?_
  refine lv_sipush (v := 400) E.1 E.2.1 dX7_init_5 (by decide) ?_
  refine m_newb E G (N' := 400) (by decide) (by decide) (by decide) (by decide) (by decide) dX7_init_8 (fun q1 H G => ?_)
  obtain ⟨ac2, hac2⟩ : ∃ w : va_W, w = ac0 ++ [(q1, .inl (K 1, 400, .inl (fun _ => 0)))] := ⟨_, rfl⟩
  have G : mG D A s H locs ((h0, .inr (7, [.null, .int 0, .int 0, .int 0, .int 0, .int 0, .int 0])) :: ac2) := by rw [hac2]; exact G
  refine m_putF E G hN 0 (ci := 7) rfl 0 (C := RX7) (T := TX7) (N := 7) rfl (by decide) mw_fl_7_9 rfl rfl rfl rfl (Nat.le_of_ble_eq_true rfl) dX7_init_10 (fun H locs G => ?_)
  have G : mG D A s H locs ((h0, .inr (7, [.ref q1, .int 0, .int 0, .int 0, .int 0, .int 0, .int 0])) :: ac2) := G
  refine lv_aload_n E.1 E.2.1 dX7_init_13 rfl (lv_at hl 0 rfl) ?_
  refine lv_iconst (v := 0) E.1 E.2.1 dX7_init_14 (by decide) ?_
  refine m_put E G 0 (ci := 7) rfl 1 (C := RX7) (T := TX7) (N := 7) rfl (by decide) mw_fl_7_15 rfl rfl rfl (Nat.le_of_ble_eq_true rfl) dX7_init_15 (fun H locs G => ?_)
  have G : mG D A s H locs ((h0, .inr (7, [.ref q1, .int 0, .int 0, .int 0, .int 0, .int 0, .int 0])) :: ac2) := G
  refine lv_aload_n E.1 E.2.1 dX7_init_18 rfl (lv_at hl 0 rfl) ?_
  refine lv_iconst (v := 0) E.1 E.2.1 dX7_init_19 (by decide) ?_
  refine m_put E G 0 (ci := 7) rfl 2 (C := RX7) (T := TX7) (N := 7) rfl (by decide) mw_fl_7_19 rfl rfl rfl (Nat.le_of_ble_eq_true rfl) dX7_init_20 (fun H locs G => ?_)
  have G : mG D A s H locs ((h0, .inr (7, [.ref q1, .int 0, .int 0, .int 0, .int 0, .int 0, .int 0])) :: ac2) := G
  refine lv_aload_n E.1 E.2.1 dX7_init_23 rfl (lv_at hl 0 rfl) ?_
  refine lv_bipush (v := 40) E.1 E.2.1 dX7_init_24 (by decide) ?_
  refine m_put E G 0 (ci := 7) rfl 3 (C := RX7) (T := TX7) (N := 7) rfl (by decide) mw_fl_7_22 rfl rfl rfl (Nat.le_of_ble_eq_true rfl) dX7_init_26 (fun H locs G => ?_)
  have G : mG D A s H locs ((h0, .inr (7, [.ref q1, .int 0, .int 0, .int 40, .int 0, .int 0, .int 0])) :: ac2) := G
  refine lv_aload_n E.1 E.2.1 dX7_init_29 rfl (lv_at hl 0 rfl) ?_
  refine lv_iconst (v := 0) E.1 E.2.1 dX7_init_30 (by decide) ?_
  refine m_put E G 0 (ci := 7) rfl 4 (C := RX7) (T := TX7) (N := 7) rfl (by decide) mw_fl_7_25 rfl rfl rfl (Nat.le_of_ble_eq_true rfl) dX7_init_31 (fun H locs G => ?_)
  have G : mG D A s H locs ((h0, .inr (7, [.ref q1, .int 0, .int 0, .int 40, .int 0, .int 0, .int 0])) :: ac2) := G
  refine lv_aload_n E.1 E.2.1 dX7_init_34 rfl (lv_at hl 0 rfl) ?_
  refine lv_iconst (v := 0) E.1 E.2.1 dX7_init_35 (by decide) ?_
  refine m_put E G 0 (ci := 7) rfl 5 (C := RX7) (T := TX7) (N := 7) rfl (by decide) mw_fl_7_28 rfl rfl rfl (Nat.le_of_ble_eq_true rfl) dX7_init_36 (fun H locs G => ?_)
  have G : mG D A s H locs ((h0, .inr (7, [.ref q1, .int 0, .int 0, .int 40, .int 0, .int 0, .int 0])) :: ac2) := G
  refine lv_aload_n E.1 E.2.1 dX7_init_39 rfl (lv_at hl 0 rfl) ?_
  refine lv_iconst (v := 0) E.1 E.2.1 dX7_init_40 (by decide) ?_
  refine m_put E G 0 (ci := 7) rfl 6 (C := RX7) (T := TX7) (N := 7) rfl (by decide) mw_fl_7_31 rfl rfl rfl (Nat.le_of_ble_eq_true rfl) dX7_init_41 (fun H locs G => ?_)
  have G : mG D A s H locs ((h0, .inr (7, [.ref q1, .int 0, .int 0, .int 40, .int 0, .int 0, .int 0])) :: ac2) := G
  obtain ⟨X0, hX0⟩ : ∃ x : va_W, x = ([(h0, .inr (7, [.ref q1, .int 0, .int 0, .int 40, .int 0, .int 0, .int 0]))] : va_W) := ⟨_, rfl⟩
  obtain ⟨g, hq3, hq4⟩ : ∃ g : Nat → Nat, g pp = h0 ∧ g (pp + 1) = q1 := by
    refine ⟨fun j => if j < (pp + 1) then h0 else q1, ?_, ?_⟩
    · exact (if_pos (by omega))
    · exact (if_neg (by omega))
  have hW : ((h0, .inr (7, [.ref q1, .int 0, .int 0, .int 40, .int 0, .int 0, .int 0])) :: ac2) = X0 ++ (([(q1, .inl (K 1, 400, .inl (fun _ => 0)))] : va_W) ++ ([])) := by
    rw [hX0, hac2, hac0]
    simp only [List.nil_append, List.append_nil, List.append_assoc, List.cons_append]
  have hP : List.Perm (X0 ++ (([(q1, .inl (K 1, 400, .inl (fun _ => 0)))] : va_W) ++ ([])) : va_W) (X0 ++ (([(q1, .inl (K 1, 400, .inl (fun _ => 0)))] : va_W) ++ ([])) : va_W) := pm_of (f := fun i => ([X0, ([(q1, .inl (K 1, 400, .inl (fun _ => 0)))] : va_W)] : List va_W).getD i []) (m := 2) (π := [0, 1]) (by decide)
  have tt5 : Bk K pp 1 g = X0 := by
    rw [hX0, Bk_one, cf_o (j := pp) (ci := 7) (at_ro (i := 0) app (by decide) : ro pp = 7) (by decide)]
    show ([(g pp, .inr (7, [.ref (g (pp + 1)), .int 0, .int 0, .int 40, .int 0, .int 0, .int 0]))] : va_W) = _
    rw [hq3, hq4]
  have tt6 : Bk K (pp + 1) 1 g = ([(q1, .inl (K 1, 400, .inl (fun _ => 0)))] : va_W) := by rw [Bk_one, hq4, cf_r (j := (pp + 1)) (r := 20) (at_ro (i := 1) app (by decide) : ro (pp + 1) = 20) (by decide), show akN 20 = 400 by decide +kernel, show akK 20 = 1 by decide +kernel]; rfl
  have ss7 : Bk K pp 2 g = Bk K pp 1 g ++ Bk K (pp + 1) 1 g := Bk_split pp 1 1
  have ss8 : Bk K (pp + 1) 1 g = Bk K (pp + 1) 1 g ++ Bk K (pp + 2) 0 g := Bk_split (pp + 1) 1 0
  have hB9 : Bk K pp 2 g = X0 ++ (([(q1, .inl (K 1, 400, .inl (fun _ => 0)))] : va_W) ++ ([])) := by rw [ss7, tt5, ss8, tt6, Bk_nil]
  have hB : X0 ++ (([(q1, .inl (K 1, 400, .inl (fun _ => 0)))] : va_W) ++ ([])) = Bk K pp 2 g := by
    rw [hB9]
    try simp only [List.append_assoc, List.append_nil, List.nil_append, List.cons_append]
  rw [hW] at G
  have hP := hP.trans (List.Perm.of_eq hB)
  exact n_retv E G hr g hq3 hP (by decide) (by decide) dX7_init_44
set_option maxHeartbeats 4000000 in
set_option maxRecDepth 100000 in
theorem n_Notes (l : Launch) (D : va_G) (K : Nat → ClassId) (pp : Nat) (app : at_ 3 pp = true) (h0 : Nat) : mV (S := Nat → Nat) l yX3_init cX3_init 1 ({ frames := 1, cells := 3, slots := 30, locals := 20 }) D K [(h0, .inr (3, [.int 0, .null, .null, .null]))] [.ref h0] (fun g => g pp = h0) (fun g => Bk K pp 4 g) := by
  refine m_enterV (by decide) (Nat.le_of_ble_eq_true rfl) ?_
  intro p e s m args below meth c A ls E hr hN G hl
  have E : mE p s m meth c cX3_init args 1 RX3 D K A := E
  have hl : lv_has ls 1 [(0, .ref h0)] := hl
  obtain ⟨H, hH⟩ : ∃ H, H = s.heap := ⟨_, rfl⟩
  obtain ⟨locs, hlo⟩ : ∃ L : List Loc, L = [] := ⟨_, rfl⟩
  rw [← hH, ← hlo] at G
  rw [← hH, ← hlo]
  clear hH hlo
  obtain ⟨ac0, hac0⟩ : ∃ w : va_W, w = [] := ⟨_, rfl⟩
  have G : mG D A s H locs ((h0, .inr (3, [.int 0, .null, .null, .null])) :: ac0) := by rw [hac0]; exact G
  refine lv_aload_n E.1 E.2.1 dX3_init_0 rfl (lv_at hl 0 rfl) ?_
  refine m_objInit E hl mw_ml_3_3 dX3_init_1 (by decide) (Nat.le_of_ble_eq_true rfl) (by decide) ?_
  refine lv_aload_n E.1 E.2.1 dX3_init_4 rfl (lv_at hl 0 rfl) ?_
  refine lv_iconst (v := 0) E.1 E.2.1 dX3_init_5 (by decide) ?_
  refine m_put E G 0 (ci := 3) rfl 0 (C := RX3) (T := TX3) (N := 4) rfl (by decide) mw_fl_3_9 rfl rfl rfl (Nat.le_of_ble_eq_true rfl) dX3_init_6 (fun H locs G => ?_)
  have G : mG D A s H locs ((h0, .inr (3, [.int 0, .null, .null, .null])) :: ac0) := G
  refine lv_aload_n E.1 E.2.1 dX3_init_9 rfl (lv_at hl 0 rfl) ?_
  refine lv_bipush (v := 10) E.1 E.2.1 dX3_init_10 (by decide) ?_
  refine m_newi E G (N' := 10) (by decide) (by decide) (by decide) (by decide) (by decide) dX3_init_12 (fun q1 H G => ?_)
  obtain ⟨ac2, hac2⟩ : ∃ w : va_W, w = ac0 ++ [(q1, .inl (K 0, 10, .inl (fun _ => 0)))] := ⟨_, rfl⟩
  have G : mG D A s H locs ((h0, .inr (3, [.int 0, .null, .null, .null])) :: ac2) := by rw [hac2]; exact G
  refine m_putF E G hN 0 (ci := 3) rfl 1 (C := RX3) (T := TX3) (N := 4) rfl (by decide) mw_fl_3_15 rfl rfl rfl rfl (Nat.le_of_ble_eq_true rfl) dX3_init_14 (fun H locs G => ?_)
  have G : mG D A s H locs ((h0, .inr (3, [.int 0, .ref q1, .null, .null])) :: ac2) := G
  refine lv_aload_n E.1 E.2.1 dX3_init_17 rfl (lv_at hl 0 rfl) ?_
  refine lv_bipush (v := 10) E.1 E.2.1 dX3_init_18 (by decide) ?_
  refine m_newi E G (N' := 10) (by decide) (by decide) (by decide) (by decide) (by decide) dX3_init_20 (fun q3 H G => ?_)
  obtain ⟨ac4, hac4⟩ : ∃ w : va_W, w = ac2 ++ [(q3, .inl (K 0, 10, .inl (fun _ => 0)))] := ⟨_, rfl⟩
  have G : mG D A s H locs ((h0, .inr (3, [.int 0, .ref q1, .null, .null])) :: ac4) := by rw [hac4]; exact G
  refine m_putF E G hN 0 (ci := 3) rfl 2 (C := RX3) (T := TX3) (N := 4) rfl (by decide) mw_fl_3_19 rfl rfl rfl rfl (Nat.le_of_ble_eq_true rfl) dX3_init_22 (fun H locs G => ?_)
  have G : mG D A s H locs ((h0, .inr (3, [.int 0, .ref q1, .ref q3, .null])) :: ac4) := G
  refine lv_aload_n E.1 E.2.1 dX3_init_25 rfl (lv_at hl 0 rfl) ?_
  refine lv_bipush (v := 10) E.1 E.2.1 dX3_init_26 (by decide) ?_
  refine m_newi E G (N' := 10) (by decide) (by decide) (by decide) (by decide) (by decide) dX3_init_28 (fun q5 H G => ?_)
  obtain ⟨ac6, hac6⟩ : ∃ w : va_W, w = ac4 ++ [(q5, .inl (K 0, 10, .inl (fun _ => 0)))] := ⟨_, rfl⟩
  have G : mG D A s H locs ((h0, .inr (3, [.int 0, .ref q1, .ref q3, .null])) :: ac6) := by rw [hac6]; exact G
  refine m_putF E G hN 0 (ci := 3) rfl 3 (C := RX3) (T := TX3) (N := 4) rfl (by decide) mw_fl_3_22 rfl rfl rfl rfl (Nat.le_of_ble_eq_true rfl) dX3_init_30 (fun H locs G => ?_)
  have G : mG D A s H locs ((h0, .inr (3, [.int 0, .ref q1, .ref q3, .ref q5])) :: ac6) := G
  obtain ⟨X0, hX0⟩ : ∃ x : va_W, x = ([(h0, .inr (3, [.int 0, .ref q1, .ref q3, .ref q5]))] : va_W) := ⟨_, rfl⟩
  obtain ⟨g, hq7, hq8, hq9, hq10⟩ : ∃ g : Nat → Nat, g pp = h0 ∧ g (pp + 1) = q1 ∧ g (pp + 2) = q3 ∧ g (pp + 3) = q5 := by
    refine ⟨fun j => if j < (pp + 1) then h0 else if j < (pp + 2) then q1 else if j < (pp + 3) then q3 else q5, ?_, ?_, ?_, ?_⟩
    · exact (if_pos (by omega))
    · exact ((if_neg (by omega)).trans (if_pos (by omega)))
    · exact ((if_neg (by omega)).trans ((if_neg (by omega)).trans (if_pos (by omega))))
    · exact ((if_neg (by omega)).trans ((if_neg (by omega)).trans (if_neg (by omega))))
  have hW : ((h0, .inr (3, [.int 0, .ref q1, .ref q3, .ref q5])) :: ac6) = X0 ++ (([(q1, .inl (K 0, 10, .inl (fun _ => 0)))] : va_W) ++ (([(q3, .inl (K 0, 10, .inl (fun _ => 0)))] : va_W) ++ (([(q5, .inl (K 0, 10, .inl (fun _ => 0)))] : va_W) ++ ([])))) := by
    rw [hX0, hac6, hac4, hac2, hac0]
    simp only [List.nil_append, List.append_nil, List.append_assoc, List.cons_append]
  have hP : List.Perm (X0 ++ (([(q1, .inl (K 0, 10, .inl (fun _ => 0)))] : va_W) ++ (([(q3, .inl (K 0, 10, .inl (fun _ => 0)))] : va_W) ++ (([(q5, .inl (K 0, 10, .inl (fun _ => 0)))] : va_W) ++ ([])))) : va_W) (X0 ++ (([(q1, .inl (K 0, 10, .inl (fun _ => 0)))] : va_W) ++ (([(q3, .inl (K 0, 10, .inl (fun _ => 0)))] : va_W) ++ (([(q5, .inl (K 0, 10, .inl (fun _ => 0)))] : va_W) ++ ([])))) : va_W) := pm_of (f := fun i => ([X0, ([(q1, .inl (K 0, 10, .inl (fun _ => 0)))] : va_W), ([(q3, .inl (K 0, 10, .inl (fun _ => 0)))] : va_W), ([(q5, .inl (K 0, 10, .inl (fun _ => 0)))] : va_W)] : List va_W).getD i []) (m := 4) (π := [0, 1, 2, 3]) (by decide)
  have tt11 : Bk K pp 1 g = X0 := by
    rw [hX0, Bk_one, cf_o (j := pp) (ci := 3) (at_ro (i := 0) app (by decide) : ro pp = 3) (by decide)]
    show ([(g pp, .inr (3, [.int 0, .ref (g (pp + 1)), .ref (g (pp + 2)), .ref (g (pp + 3))]))] : va_W) = _
    rw [hq7, hq8, hq9, hq10]
  have tt12 : Bk K (pp + 1) 1 g = ([(q1, .inl (K 0, 10, .inl (fun _ => 0)))] : va_W) := by rw [Bk_one, hq8, cf_r (j := (pp + 1)) (r := 27) (at_ro (i := 1) app (by decide) : ro (pp + 1) = 27) (by decide), show akN 27 = 10 by decide +kernel, show akK 27 = 0 by decide +kernel]; rfl
  have tt13 : Bk K (pp + 2) 1 g = ([(q3, .inl (K 0, 10, .inl (fun _ => 0)))] : va_W) := by rw [Bk_one, hq9, cf_r (j := (pp + 2)) (r := 28) (at_ro (i := 2) app (by decide) : ro (pp + 2) = 28) (by decide), show akN 28 = 10 by decide +kernel, show akK 28 = 0 by decide +kernel]; rfl
  have tt14 : Bk K (pp + 3) 1 g = ([(q5, .inl (K 0, 10, .inl (fun _ => 0)))] : va_W) := by rw [Bk_one, hq10, cf_r (j := (pp + 3)) (r := 29) (at_ro (i := 3) app (by decide) : ro (pp + 3) = 29) (by decide), show akN 29 = 10 by decide +kernel, show akK 29 = 0 by decide +kernel]; rfl
  have ss15 : Bk K pp 4 g = Bk K pp 1 g ++ Bk K (pp + 1) 3 g := Bk_split pp 1 3
  have ss16 : Bk K (pp + 1) 3 g = Bk K (pp + 1) 1 g ++ Bk K (pp + 2) 2 g := Bk_split (pp + 1) 1 2
  have ss17 : Bk K (pp + 2) 2 g = Bk K (pp + 2) 1 g ++ Bk K (pp + 3) 1 g := Bk_split (pp + 2) 1 1
  have ss18 : Bk K (pp + 3) 1 g = Bk K (pp + 3) 1 g ++ Bk K (pp + 4) 0 g := Bk_split (pp + 3) 1 0
  have hB19 : Bk K pp 4 g = X0 ++ (([(q1, .inl (K 0, 10, .inl (fun _ => 0)))] : va_W) ++ (([(q3, .inl (K 0, 10, .inl (fun _ => 0)))] : va_W) ++ (([(q5, .inl (K 0, 10, .inl (fun _ => 0)))] : va_W) ++ ([])))) := by rw [ss15, tt11, ss16, tt12, ss17, tt13, ss18, tt14, Bk_nil]
  have hB : X0 ++ (([(q1, .inl (K 0, 10, .inl (fun _ => 0)))] : va_W) ++ (([(q3, .inl (K 0, 10, .inl (fun _ => 0)))] : va_W) ++ (([(q5, .inl (K 0, 10, .inl (fun _ => 0)))] : va_W) ++ ([])))) = Bk K pp 4 g := by
    rw [hB19]
    try simp only [List.append_assoc, List.append_nil, List.nil_append, List.cons_append]
  rw [hW] at G
  have hP := hP.trans (List.Perm.of_eq hB)
  exact n_retv E G hr g hq7 hP (by decide) (by decide) dX3_init_33
set_option maxHeartbeats 4000000 in
set_option maxRecDepth 100000 in
theorem n_Rule (l : Launch) (D : va_G) (K : Nat → ClassId) (pp : Nat) (app : at_ 4 pp = true) (h0 : Nat) : mV (S := Nat → Nat) l yX4_init cX4_init 1 ({ frames := 1, cells := 4, slots := 487, locals := 20 }) D K [(h0, .inr (4, [.int 0, .null, .int 0, .null, .null, .null]))] [.ref h0] (fun g => g pp = h0) (fun g => Bk K pp 5 g) := by
  refine m_enterV (by decide) (Nat.le_of_ble_eq_true rfl) ?_
  intro p e s m args below meth c A ls E hr hN G hl
  have E : mE p s m meth c cX4_init args 1 RX4 D K A := E
  have hl : lv_has ls 1 [(0, .ref h0)] := hl
  obtain ⟨H, hH⟩ : ∃ H, H = s.heap := ⟨_, rfl⟩
  obtain ⟨locs, hlo⟩ : ∃ L : List Loc, L = [] := ⟨_, rfl⟩
  rw [← hH, ← hlo] at G
  rw [← hH, ← hlo]
  clear hH hlo
  obtain ⟨ac0, hac0⟩ : ∃ w : va_W, w = [] := ⟨_, rfl⟩
  have G : mG D A s H locs ((h0, .inr (4, [.int 0, .null, .int 0, .null, .null, .null])) :: ac0) := by rw [hac0]; exact G
  refine lv_aload_n E.1 E.2.1 dX4_init_0 rfl (lv_at hl 0 rfl) ?_
  refine m_objInit E hl mw_ml_4_3 dX4_init_1 (by decide) (Nat.le_of_ble_eq_true rfl) (by decide) ?_
  refine lv_aload_n E.1 E.2.1 dX4_init_4 rfl (lv_at hl 0 rfl) ?_
  refine lv_iconst (v := 0) E.1 E.2.1 dX4_init_5 (by decide) ?_
  refine m_put E G 0 (ci := 4) rfl 0 (C := RX4) (T := TX4) (N := 6) rfl (by decide) mw_fl_4_9 rfl rfl rfl (Nat.le_of_ble_eq_true rfl) dX4_init_6 (fun H locs G => ?_)
  have G : mG D A s H locs ((h0, .inr (4, [.int 0, .null, .int 0, .null, .null, .null])) :: ac0) := G
  refine lv_aload_n E.1 E.2.1 dX4_init_9 rfl (lv_at hl 0 rfl) ?_
  refine lv_sipush (v := 400) E.1 E.2.1 dX4_init_10 (by decide) ?_
  refine m_newi E G (N' := 400) (by decide) (by decide) (by decide) (by decide) (by decide) dX4_init_13 (fun q1 H G => ?_)
  obtain ⟨ac2, hac2⟩ : ∃ w : va_W, w = ac0 ++ [(q1, .inl (K 0, 400, .inl (fun _ => 0)))] := ⟨_, rfl⟩
  have G : mG D A s H locs ((h0, .inr (4, [.int 0, .null, .int 0, .null, .null, .null])) :: ac2) := by rw [hac2]; exact G
  refine m_putF E G hN 0 (ci := 4) rfl 1 (C := RX4) (T := TX4) (N := 6) rfl (by decide) mw_fl_4_15 rfl rfl rfl rfl (Nat.le_of_ble_eq_true rfl) dX4_init_15 (fun H locs G => ?_)
  have G : mG D A s H locs ((h0, .inr (4, [.int 0, .ref q1, .int 0, .null, .null, .null])) :: ac2) := G
  refine lv_aload_n E.1 E.2.1 dX4_init_18 rfl (lv_at hl 0 rfl) ?_
  refine lv_iconst (v := 0) E.1 E.2.1 dX4_init_19 (by decide) ?_
  refine m_put E G 0 (ci := 4) rfl 2 (C := RX4) (T := TX4) (N := 6) rfl (by decide) mw_fl_4_19 rfl rfl rfl (Nat.le_of_ble_eq_true rfl) dX4_init_20 (fun H locs G => ?_)
  have G : mG D A s H locs ((h0, .inr (4, [.int 0, .ref q1, .int 0, .null, .null, .null])) :: ac2) := G
  refine lv_aload_n E.1 E.2.1 dX4_init_23 rfl (lv_at hl 0 rfl) ?_
  refine lv_bipush (v := 13) E.1 E.2.1 dX4_init_24 (by decide) ?_
  refine m_newi E G (N' := 13) (by decide) (by decide) (by decide) (by decide) (by decide) dX4_init_26 (fun q3 H G => ?_)
  obtain ⟨ac4, hac4⟩ : ∃ w : va_W, w = ac2 ++ [(q3, .inl (K 0, 13, .inl (fun _ => 0)))] := ⟨_, rfl⟩
  have G : mG D A s H locs ((h0, .inr (4, [.int 0, .ref q1, .int 0, .null, .null, .null])) :: ac4) := by rw [hac4]; exact G
  refine m_putF E G hN 0 (ci := 4) rfl 3 (C := RX4) (T := TX4) (N := 6) rfl (by decide) mw_fl_4_22 rfl rfl rfl rfl (Nat.le_of_ble_eq_true rfl) dX4_init_28 (fun H locs G => ?_)
  have G : mG D A s H locs ((h0, .inr (4, [.int 0, .ref q1, .int 0, .ref q3, .null, .null])) :: ac4) := G
  refine lv_aload_n E.1 E.2.1 dX4_init_31 rfl (lv_at hl 0 rfl) ?_
  refine lv_bipush (v := 13) E.1 E.2.1 dX4_init_32 (by decide) ?_
  refine m_newi E G (N' := 13) (by decide) (by decide) (by decide) (by decide) (by decide) dX4_init_34 (fun q5 H G => ?_)
  obtain ⟨ac6, hac6⟩ : ∃ w : va_W, w = ac4 ++ [(q5, .inl (K 0, 13, .inl (fun _ => 0)))] := ⟨_, rfl⟩
  have G : mG D A s H locs ((h0, .inr (4, [.int 0, .ref q1, .int 0, .ref q3, .null, .null])) :: ac6) := by rw [hac6]; exact G
  refine m_putF E G hN 0 (ci := 4) rfl 4 (C := RX4) (T := TX4) (N := 6) rfl (by decide) mw_fl_4_25 rfl rfl rfl rfl (Nat.le_of_ble_eq_true rfl) dX4_init_36 (fun H locs G => ?_)
  have G : mG D A s H locs ((h0, .inr (4, [.int 0, .ref q1, .int 0, .ref q3, .ref q5, .null])) :: ac6) := G
  refine lv_aload_n E.1 E.2.1 dX4_init_39 rfl (lv_at hl 0 rfl) ?_
  refine lv_bipush (v := 61) E.1 E.2.1 dX4_init_40 (by decide) ?_
  refine m_newl E G (N' := 61) (by decide) (by decide) (by decide) (by decide) (by decide) dX4_init_42 (fun q7 H G => ?_)
  obtain ⟨ac8, hac8⟩ : ∃ w : va_W, w = ac6 ++ [(q7, .inl (K 2, 61, .inr (.inl (fun _ => 0))))] := ⟨_, rfl⟩
  have G : mG D A s H locs ((h0, .inr (4, [.int 0, .ref q1, .int 0, .ref q3, .ref q5, .null])) :: ac8) := by rw [hac8]; exact G
  refine m_putF E G hN 0 (ci := 4) rfl 5 (C := RX4) (T := TX4) (N := 6) rfl (by decide) mw_fl_4_28 rfl rfl rfl rfl (Nat.le_of_ble_eq_true rfl) dX4_init_44 (fun H locs G => ?_)
  have G : mG D A s H locs ((h0, .inr (4, [.int 0, .ref q1, .int 0, .ref q3, .ref q5, .ref q7])) :: ac8) := G
  obtain ⟨X0, hX0⟩ : ∃ x : va_W, x = ([(h0, .inr (4, [.int 0, .ref q1, .int 0, .ref q3, .ref q5, .ref q7]))] : va_W) := ⟨_, rfl⟩
  obtain ⟨g, hq9, hq10, hq11, hq12, hq13⟩ : ∃ g : Nat → Nat, g pp = h0 ∧ g (pp + 1) = q1 ∧ g (pp + 2) = q3 ∧ g (pp + 3) = q5 ∧ g (pp + 4) = q7 := by
    refine ⟨fun j => if j < (pp + 1) then h0 else if j < (pp + 2) then q1 else if j < (pp + 3) then q3 else if j < (pp + 4) then q5 else q7, ?_, ?_, ?_, ?_, ?_⟩
    · exact (if_pos (by omega))
    · exact ((if_neg (by omega)).trans (if_pos (by omega)))
    · exact ((if_neg (by omega)).trans ((if_neg (by omega)).trans (if_pos (by omega))))
    · exact ((if_neg (by omega)).trans ((if_neg (by omega)).trans ((if_neg (by omega)).trans (if_pos (by omega)))))
    · exact ((if_neg (by omega)).trans ((if_neg (by omega)).trans ((if_neg (by omega)).trans (if_neg (by omega)))))
  have hW : ((h0, .inr (4, [.int 0, .ref q1, .int 0, .ref q3, .ref q5, .ref q7])) :: ac8) = X0 ++ (([(q1, .inl (K 0, 400, .inl (fun _ => 0)))] : va_W) ++ (([(q3, .inl (K 0, 13, .inl (fun _ => 0)))] : va_W) ++ (([(q5, .inl (K 0, 13, .inl (fun _ => 0)))] : va_W) ++ (([(q7, .inl (K 2, 61, .inr (.inl (fun _ => 0))))] : va_W) ++ ([]))))) := by
    rw [hX0, hac8, hac6, hac4, hac2, hac0]
    simp only [List.nil_append, List.append_nil, List.append_assoc, List.cons_append]
  have hP : List.Perm (X0 ++ (([(q1, .inl (K 0, 400, .inl (fun _ => 0)))] : va_W) ++ (([(q3, .inl (K 0, 13, .inl (fun _ => 0)))] : va_W) ++ (([(q5, .inl (K 0, 13, .inl (fun _ => 0)))] : va_W) ++ (([(q7, .inl (K 2, 61, .inr (.inl (fun _ => 0))))] : va_W) ++ ([]))))) : va_W) (X0 ++ (([(q1, .inl (K 0, 400, .inl (fun _ => 0)))] : va_W) ++ (([(q3, .inl (K 0, 13, .inl (fun _ => 0)))] : va_W) ++ (([(q5, .inl (K 0, 13, .inl (fun _ => 0)))] : va_W) ++ (([(q7, .inl (K 2, 61, .inr (.inl (fun _ => 0))))] : va_W) ++ ([]))))) : va_W) := pm_of (f := fun i => ([X0, ([(q1, .inl (K 0, 400, .inl (fun _ => 0)))] : va_W), ([(q3, .inl (K 0, 13, .inl (fun _ => 0)))] : va_W), ([(q5, .inl (K 0, 13, .inl (fun _ => 0)))] : va_W), ([(q7, .inl (K 2, 61, .inr (.inl (fun _ => 0))))] : va_W)] : List va_W).getD i []) (m := 5) (π := [0, 1, 2, 3, 4]) (by decide)
  have tt14 : Bk K pp 1 g = X0 := by
    rw [hX0, Bk_one, cf_o (j := pp) (ci := 4) (at_ro (i := 0) app (by decide) : ro pp = 4) (by decide)]
    show ([(g pp, .inr (4, [.int 0, .ref (g (pp + 1)), .int 0, .ref (g (pp + 2)), .ref (g (pp + 3)), .ref (g (pp + 4))]))] : va_W) = _
    rw [hq9, hq10, hq11, hq12, hq13]
  have tt15 : Bk K (pp + 1) 1 g = ([(q1, .inl (K 0, 400, .inl (fun _ => 0)))] : va_W) := by rw [Bk_one, hq10, cf_r (j := (pp + 1)) (r := 30) (at_ro (i := 1) app (by decide) : ro (pp + 1) = 30) (by decide), show akN 30 = 400 by decide +kernel, show akK 30 = 0 by decide +kernel]; rfl
  have tt16 : Bk K (pp + 2) 1 g = ([(q3, .inl (K 0, 13, .inl (fun _ => 0)))] : va_W) := by rw [Bk_one, hq11, cf_r (j := (pp + 2)) (r := 31) (at_ro (i := 2) app (by decide) : ro (pp + 2) = 31) (by decide), show akN 31 = 13 by decide +kernel, show akK 31 = 0 by decide +kernel]; rfl
  have tt17 : Bk K (pp + 3) 1 g = ([(q5, .inl (K 0, 13, .inl (fun _ => 0)))] : va_W) := by rw [Bk_one, hq12, cf_r (j := (pp + 3)) (r := 32) (at_ro (i := 3) app (by decide) : ro (pp + 3) = 32) (by decide), show akN 32 = 13 by decide +kernel, show akK 32 = 0 by decide +kernel]; rfl
  have tt18 : Bk K (pp + 4) 1 g = ([(q7, .inl (K 2, 61, .inr (.inl (fun _ => 0))))] : va_W) := by rw [Bk_one, hq13, cf_r (j := (pp + 4)) (r := 33) (at_ro (i := 4) app (by decide) : ro (pp + 4) = 33) (by decide), show akN 33 = 61 by decide +kernel, show akK 33 = 2 by decide +kernel]; rfl
  have ss19 : Bk K pp 5 g = Bk K pp 1 g ++ Bk K (pp + 1) 4 g := Bk_split pp 1 4
  have ss20 : Bk K (pp + 1) 4 g = Bk K (pp + 1) 1 g ++ Bk K (pp + 2) 3 g := Bk_split (pp + 1) 1 3
  have ss21 : Bk K (pp + 2) 3 g = Bk K (pp + 2) 1 g ++ Bk K (pp + 3) 2 g := Bk_split (pp + 2) 1 2
  have ss22 : Bk K (pp + 3) 2 g = Bk K (pp + 3) 1 g ++ Bk K (pp + 4) 1 g := Bk_split (pp + 3) 1 1
  have ss23 : Bk K (pp + 4) 1 g = Bk K (pp + 4) 1 g ++ Bk K (pp + 5) 0 g := Bk_split (pp + 4) 1 0
  have hB24 : Bk K pp 5 g = X0 ++ (([(q1, .inl (K 0, 400, .inl (fun _ => 0)))] : va_W) ++ (([(q3, .inl (K 0, 13, .inl (fun _ => 0)))] : va_W) ++ (([(q5, .inl (K 0, 13, .inl (fun _ => 0)))] : va_W) ++ (([(q7, .inl (K 2, 61, .inr (.inl (fun _ => 0))))] : va_W) ++ ([]))))) := by rw [ss19, tt14, ss20, tt15, ss21, tt16, ss22, tt17, ss23, tt18, Bk_nil]
  have hB : X0 ++ (([(q1, .inl (K 0, 400, .inl (fun _ => 0)))] : va_W) ++ (([(q3, .inl (K 0, 13, .inl (fun _ => 0)))] : va_W) ++ (([(q5, .inl (K 0, 13, .inl (fun _ => 0)))] : va_W) ++ (([(q7, .inl (K 2, 61, .inr (.inl (fun _ => 0))))] : va_W) ++ ([]))))) = Bk K pp 5 g := by
    rw [hB24]
    try simp only [List.append_assoc, List.append_nil, List.nil_append, List.cons_append]
  rw [hW] at G
  have hP := hP.trans (List.Perm.of_eq hB)
  exact n_retv E G hr g hq9 hP (by decide) (by decide) dX4_init_47
