theorem mw_fl_8_47 : (Cond.fieldLink RX8 47 "LureTown$State" "setBits" "I" : Cond) ∈ cw := cw_of (List.mem_append_right _ (List.mem_append_left _ (List.mem_of_getElem? (i := 110) (by decide +kernel)))) (by decide +kernel)
theorem dX7_blame_0 : decode cX7_blame 0 = .ok (.aload_n 0, 1) := by decide +kernel
theorem dX7_blame_1 : decode cX7_blame 1 = .ok (.getfield 19, 3) := by decide +kernel
theorem dX7_blame_4 : decode cX7_blame 4 = .ok (.ifCond .ne 18, 3) := by decide +kernel
theorem dX7_blame_7 : decode cX7_blame 7 = .ok (.aload_n 0, 1) := by decide +kernel
theorem dX7_blame_8 : decode cX7_blame 8 = .ok (.iconst 1, 1) := by decide +kernel
theorem dX7_blame_9 : decode cX7_blame 9 = .ok (.bipush 8, 2) := by decide +kernel
theorem dX7_blame_11 : decode cX7_blame 11 = .ok (.aload_n 0, 1) := by decide +kernel
theorem dX7_blame_12 : decode cX7_blame 12 = .ok (.getfield 28, 3) := by decide +kernel
theorem dX7_blame_15 : decode cX7_blame 15 = .ok (.imul, 1) := by decide +kernel
theorem dX7_blame_16 : decode cX7_blame 16 = .ok (.iadd, 1) := by decide +kernel
theorem dX7_blame_17 : decode cX7_blame 17 = .ok (.iload_n 1, 1) := by decide +kernel
theorem dX7_blame_18 : decode cX7_blame 18 = .ok (.iadd, 1) := by decide +kernel
theorem dX7_blame_19 : decode cX7_blame 19 = .ok (.putfield 19, 3) := by decide +kernel
theorem dX7_blame_22 : decode cX7_blame 22 = .ok (.return_, 1) := by decide +kernel
theorem dX7_readToken_0 : decode cX7_readToken 0 = .ok (.aload_n 0, 1) := by decide +kernel
theorem dX7_readToken_1 : decode cX7_readToken 1 = .ok (.getfield 31, 3) := by decide +kernel
theorem dX7_readToken_4 : decode cX7_readToken 4 = .ok (.aload_n 0, 1) := by decide +kernel
theorem dX7_readToken_5 : decode cX7_readToken 5 = .ok (.getfield 15, 3) := by decide +kernel
theorem dX7_readToken_8 : decode cX7_readToken 8 = .ok (.if_icmp .ge 30, 3) := by decide +kernel
theorem dX7_readToken_38 : decode cX7_readToken 38 = .ok (.aload_n 0, 1) := by decide +kernel
theorem dX7_readToken_39 : decode cX7_readToken 39 = .ok (.aload_n 0, 1) := by decide +kernel
theorem dX7_readToken_40 : decode cX7_readToken 40 = .ok (.getfield 31, 3) := by decide +kernel
theorem dX7_readToken_43 : decode cX7_readToken 43 = .ok (.putfield 28, 3) := by decide +kernel
theorem dX7_readToken_46 : decode cX7_readToken 46 = .ok (.aload_n 0, 1) := by decide +kernel
theorem dX7_readToken_47 : decode cX7_readToken 47 = .ok (.getfield 31, 3) := by decide +kernel
theorem dX7_readToken_50 : decode cX7_readToken 50 = .ok (.aload_n 0, 1) := by decide +kernel
theorem dX7_readToken_51 : decode cX7_readToken 51 = .ok (.getfield 15, 3) := by decide +kernel
theorem dX7_readToken_54 : decode cX7_readToken 54 = .ok (.if_icmp .lt 12, 3) := by decide +kernel
theorem dX7_readToken_57 : decode cX7_readToken 57 = .ok (.aload_n 0, 1) := by decide +kernel
theorem dX7_readToken_58 : decode cX7_readToken 58 = .ok (.bipush 40, 2) := by decide +kernel
theorem dX7_readToken_60 : decode cX7_readToken 60 = .ok (.putfield 22, 3) := by decide +kernel
theorem dX7_readToken_63 : decode cX7_readToken 63 = .ok (.goto 43, 3) := by decide +kernel
theorem dX7_readToken_106 : decode cX7_readToken 106 = .ok (.return_, 1) := by decide +kernel
theorem dX7_rewind_0 : decode cX7_rewind 0 = .ok (.aload_n 0, 1) := by decide +kernel
theorem dX7_rewind_1 : decode cX7_rewind 1 = .ok (.iconst 0, 1) := by decide +kernel
theorem dX7_rewind_2 : decode cX7_rewind 2 = .ok (.putfield 28, 3) := by decide +kernel
theorem dX7_rewind_5 : decode cX7_rewind 5 = .ok (.aload_n 0, 1) := by decide +kernel
theorem dX7_rewind_6 : decode cX7_rewind 6 = .ok (.iconst 0, 1) := by decide +kernel
theorem dX7_rewind_7 : decode cX7_rewind 7 = .ok (.putfield 31, 3) := by decide +kernel
theorem dX7_rewind_10 : decode cX7_rewind 10 = .ok (.aload_n 0, 1) := by decide +kernel
theorem dX7_rewind_11 : decode cX7_rewind 11 = .ok (.iconst 0, 1) := by decide +kernel
theorem dX7_rewind_12 : decode cX7_rewind 12 = .ok (.putfield 19, 3) := by decide +kernel
theorem dX7_rewind_15 : decode cX7_rewind 15 = .ok (.return_, 1) := by decide +kernel
theorem dX8_clear_0 : decode cX8_clear 0 = .ok (.aload_n 0, 1) := by decide +kernel
theorem dX8_clear_1 : decode cX8_clear 1 = .ok (.iconst 0, 1) := by decide +kernel
theorem dX8_clear_2 : decode cX8_clear 2 = .ok (.putfield 9, 3) := by decide +kernel
theorem dX8_clear_5 : decode cX8_clear 5 = .ok (.aload_n 0, 1) := by decide +kernel
theorem dX8_clear_6 : decode cX8_clear 6 = .ok (.iconst 0, 1) := by decide +kernel
theorem dX8_clear_7 : decode cX8_clear 7 = .ok (.putfield 15, 3) := by decide +kernel
theorem dX8_clear_10 : decode cX8_clear 10 = .ok (.aload_n 0, 1) := by decide +kernel
theorem dX8_clear_11 : decode cX8_clear 11 = .ok (.iconst 0, 1) := by decide +kernel
theorem dX8_clear_12 : decode cX8_clear 12 = .ok (.putfield 18, 3) := by decide +kernel
theorem dX8_clear_15 : decode cX8_clear 15 = .ok (.aload_n 0, 1) := by decide +kernel
theorem dX8_clear_16 : decode cX8_clear 16 = .ok (.iconst 0, 1) := by decide +kernel
theorem dX8_clear_17 : decode cX8_clear 17 = .ok (.putfield 21, 3) := by decide +kernel
theorem dX8_clear_20 : decode cX8_clear 20 = .ok (.aload_n 0, 1) := by decide +kernel
theorem dX8_clear_21 : decode cX8_clear 21 = .ok (.getfield 40, 3) := by decide +kernel
theorem dX8_clear_24 : decode cX8_clear 24 = .ok (.iconst 0, 1) := by decide +kernel
theorem dX8_clear_25 : decode cX8_clear 25 = .ok (.putfield 47, 3) := by decide +kernel
theorem dX8_clear_28 : decode cX8_clear 28 = .ok (.iconst 0, 1) := by decide +kernel
theorem dX8_clear_29 : decode cX8_clear 29 = .ok (.istore_n 1, 1) := by decide +kernel
theorem dX8_clear_30 : decode cX8_clear 30 = .ok (.iload_n 1, 1) := by decide +kernel
theorem dX8_clear_31 : decode cX8_clear 31 = .ok (.bipush 8, 2) := by decide +kernel
theorem dX8_clear_33 : decode cX8_clear 33 = .ok (.if_icmp .ge 16, 3) := by decide +kernel
theorem dX8_clear_36 : decode cX8_clear 36 = .ok (.aload_n 0, 1) := by decide +kernel
theorem dX8_clear_37 : decode cX8_clear 37 = .ok (.getfield 24, 3) := by decide +kernel
theorem dX8_clear_40 : decode cX8_clear 40 = .ok (.iload_n 1, 1) := by decide +kernel
theorem dX8_clear_41 : decode cX8_clear 41 = .ok (.iconst 0, 1) := by decide +kernel
theorem dX8_clear_42 : decode cX8_clear 42 = .ok (.iastore, 1) := by decide +kernel
theorem dX8_clear_43 : decode cX8_clear 43 = .ok (.iinc 1 1, 3) := by decide +kernel
theorem dX8_clear_46 : decode cX8_clear 46 = .ok (.goto (-16), 3) := by decide +kernel
theorem dX8_clear_49 : decode cX8_clear 49 = .ok (.return_, 1) := by decide +kernel
set_option maxHeartbeats 4000000 in
set_option maxRecDepth 100000 in
theorem k_rewind (l : Launch) (D : va_G) (K : Nat → ClassId) (tp : Nat) (bt : Nat) : mV (S := mU) l yX7_rewind cX7_rewind 1 ({ frames := 0, cells := 0, slots := 0, locals := 0 }) D K [(tp, .inr (7, [.ref bt, .int 0, .int 0, .int 40, .int 0, .int 0, .int 0]))] [.ref tp] (fun u => True) (fun u => [(tp, .inr (7, [.ref bt, .int 0, .int 0, .int 40, .int 0, .int 0, .int 0]))]) := by
  refine m_enterV (by decide) (Nat.le_of_ble_eq_true rfl) ?_
  intro p e s m args below meth c A ls E hr hN G hl
  have E : mE p s m meth c cX7_rewind args 1 RX7 D K A := E
  have hl : lv_has ls 1 [(0, .ref tp)] := hl
  obtain ⟨H, hH⟩ : ∃ H, H = s.heap := ⟨_, rfl⟩
  obtain ⟨locs, hlo⟩ : ∃ L : List Loc, L = [] := ⟨_, rfl⟩
  rw [← hH, ← hlo] at G
  rw [← hH, ← hlo]
  have G : mG D A s H locs [(tp, .inr (7, [.ref bt, .int 0, .int 0, .int 40, .int 0, .int 0, .int 0]))] := G
  clear hH hlo
  refine lv_aload_n E.1 E.2.1 dX7_rewind_0 rfl (lv_at hl 0 rfl) ?_
  refine lv_iconst (v := 0) E.1 E.2.1 dX7_rewind_1 (by decide) ?_
  refine m_put E G 0 (ci := 7) rfl 5 (C := RX7) (T := TX7) (N := 7) rfl (by decide) mw_fl_7_28 rfl rfl rfl (Nat.le_of_ble_eq_true rfl) dX7_rewind_2 (fun H locs G => ?_)
  have G : mG D A s H locs [(tp, .inr (7, [.ref bt, .int 0, .int 0, .int 40, .int 0, .int 0, .int 0]))] := G
  refine lv_aload_n E.1 E.2.1 dX7_rewind_5 rfl (lv_at hl 0 rfl) ?_
  refine lv_iconst (v := 0) E.1 E.2.1 dX7_rewind_6 (by decide) ?_
  refine m_put E G 0 (ci := 7) rfl 6 (C := RX7) (T := TX7) (N := 7) rfl (by decide) mw_fl_7_31 rfl rfl rfl (Nat.le_of_ble_eq_true rfl) dX7_rewind_7 (fun H locs G => ?_)
  have G : mG D A s H locs [(tp, .inr (7, [.ref bt, .int 0, .int 0, .int 40, .int 0, .int 0, .int 0]))] := G
  refine lv_aload_n E.1 E.2.1 dX7_rewind_10 rfl (lv_at hl 0 rfl) ?_
  refine lv_iconst (v := 0) E.1 E.2.1 dX7_rewind_11 (by decide) ?_
  refine m_put E G 0 (ci := 7) rfl 2 (C := RX7) (T := TX7) (N := 7) rfl (by decide) mw_fl_7_19 rfl rfl rfl (Nat.le_of_ble_eq_true rfl) dX7_rewind_12 (fun H locs G => ?_)
  have G : mG D A s H locs [(tp, .inr (7, [.ref bt, .int 0, .int 0, .int 40, .int 0, .int 0, .int 0]))] := G
  exact m_retv E G hr (fun _ => 0, fun _ _ => 0, fun _ _ => none) trivial [0] (by decide) rfl (by decide) (by decide) dX7_rewind_15
set_option maxHeartbeats 4000000 in
set_option maxRecDepth 100000 in
theorem k_readToken (l : Launch) (D : va_G) (K : Nat → ClassId) (tp : Nat) (bt : Nat) : mV (S := mU) l yX7_readToken cX7_readToken 1 ({ frames := 0, cells := 0, slots := 0, locals := 0 }) D K [(tp, .inr (7, [.ref bt, .int 0, .int 0, .int 40, .int 0, .int 0, .int 0]))] [.ref tp] (fun u => True) (fun u => [(tp, .inr (7, [.ref bt, .int 0, .int 0, .int 40, .int 0, .int 0, .int 0]))]) := by
  refine m_enterV (by decide) (Nat.le_of_ble_eq_true rfl) ?_
  intro p e s m args below meth c A ls E hr hN G hl
  have E : mE p s m meth c cX7_readToken args 1 RX7 D K A := E
  have hl : lv_has ls 1 [(0, .ref tp)] := hl
  obtain ⟨H, hH⟩ : ∃ H, H = s.heap := ⟨_, rfl⟩
  obtain ⟨locs, hlo⟩ : ∃ L : List Loc, L = [] := ⟨_, rfl⟩
  rw [← hH, ← hlo] at G
  rw [← hH, ← hlo]
  have G : mG D A s H locs [(tp, .inr (7, [.ref bt, .int 0, .int 0, .int 40, .int 0, .int 0, .int 0]))] := G
  clear hH hlo
  refine lv_aload_n E.1 E.2.1 dX7_readToken_0 rfl (lv_at hl 0 rfl) ?_
  refine m_get E G 0 (ci := 7) rfl 6 (C := RX7) (T := TX7) (N := 7) rfl (by decide) mw_fl_7_31 (v := .int 0) rfl dX7_readToken_1 ?_
  refine lv_aload_n E.1 E.2.1 dX7_readToken_4 rfl (lv_at hl 0 rfl) ?_
  refine m_get E G 0 (ci := 7) rfl 1 (C := RX7) (T := TX7) (N := 7) rfl (by decide) mw_fl_7_15 (v := .int 0) rfl dX7_readToken_5 ?_
  refine lv_icmp_ge (tgt := 38) E.1 E.2.1 dX7_readToken_8 (by decide) (fun _ => ?_) (fun h => absurd (by decide) h)
  refine lv_aload_n E.1 E.2.1 dX7_readToken_38 rfl (lv_at hl 0 rfl) ?_
  refine lv_aload_n E.1 E.2.1 dX7_readToken_39 rfl (lv_at hl 0 rfl) ?_
  refine m_get E G 0 (ci := 7) rfl 6 (C := RX7) (T := TX7) (N := 7) rfl (by decide) mw_fl_7_31 (v := .int 0) rfl dX7_readToken_40 ?_
  refine m_put E G 0 (ci := 7) rfl 5 (C := RX7) (T := TX7) (N := 7) rfl (by decide) mw_fl_7_28 rfl rfl rfl (Nat.le_of_ble_eq_true rfl) dX7_readToken_43 (fun H locs G => ?_)
  have G : mG D A s H locs [(tp, .inr (7, [.ref bt, .int 0, .int 0, .int 40, .int 0, .int 0, .int 0]))] := G
  refine lv_aload_n E.1 E.2.1 dX7_readToken_46 rfl (lv_at hl 0 rfl) ?_
  refine m_get E G 0 (ci := 7) rfl 6 (C := RX7) (T := TX7) (N := 7) rfl (by decide) mw_fl_7_31 (v := .int 0) rfl dX7_readToken_47 ?_
  refine lv_aload_n E.1 E.2.1 dX7_readToken_50 rfl (lv_at hl 0 rfl) ?_
  refine m_get E G 0 (ci := 7) rfl 1 (C := RX7) (T := TX7) (N := 7) rfl (by decide) mw_fl_7_15 (v := .int 0) rfl dX7_readToken_51 ?_
  refine lv_icmp_lt (tgt := 66) E.1 E.2.1 dX7_readToken_54 (by decide) (fun h => absurd h (by decide)) (fun _ => ?_)
  refine lv_aload_n E.1 E.2.1 dX7_readToken_57 rfl (lv_at hl 0 rfl) ?_
  refine lv_bipush (v := 40) E.1 E.2.1 dX7_readToken_58 (by decide) ?_
  refine m_put E G 0 (ci := 7) rfl 3 (C := RX7) (T := TX7) (N := 7) rfl (by decide) mw_fl_7_22 rfl rfl rfl (Nat.le_of_ble_eq_true rfl) dX7_readToken_60 (fun H locs G => ?_)
  have G : mG D A s H locs [(tp, .inr (7, [.ref bt, .int 0, .int 0, .int 40, .int 0, .int 0, .int 0]))] := G
  refine lv_goto (tgt := 106) E.1 E.2.1 dX7_readToken_63 (by decide) ?_
  exact m_retv E G hr (fun _ => 0, fun _ _ => 0, fun _ _ => none) trivial [0] (by decide) rfl (by decide) (by decide) dX7_readToken_106
set_option maxHeartbeats 4000000 in
set_option maxRecDepth 100000 in
theorem k_blame (l : Launch) (D : va_G) (K : Nat → ClassId) (tp : Nat) (bt : Nat) : mV (S := mU) l yX7_blame cX7_blame 2 ({ frames := 0, cells := 0, slots := 0, locals := 0 }) D K [(tp, .inr (7, [.ref bt, .int 0, .int 0, .int 40, .int 0, .int 0, .int 0]))] [.ref tp, .int 0] (fun u => True) (fun u => [(tp, .inr (7, [.ref bt, .int 0, .int 1, .int 40, .int 0, .int 0, .int 0]))]) := by
  refine m_enterV (by decide) (Nat.le_of_ble_eq_true rfl) ?_
  intro p e s m args below meth c A ls E hr hN G hl
  have E : mE p s m meth c cX7_blame args 2 RX7 D K A := E
  have hl : lv_has ls 2 [(0, .ref tp), (1, .int 0)] := hl
  obtain ⟨H, hH⟩ : ∃ H, H = s.heap := ⟨_, rfl⟩
  obtain ⟨locs, hlo⟩ : ∃ L : List Loc, L = [] := ⟨_, rfl⟩
  rw [← hH, ← hlo] at G
  rw [← hH, ← hlo]
  have G : mG D A s H locs [(tp, .inr (7, [.ref bt, .int 0, .int 0, .int 40, .int 0, .int 0, .int 0]))] := G
  clear hH hlo
  refine lv_aload_n E.1 E.2.1 dX7_blame_0 rfl (lv_at hl 0 rfl) ?_
  refine m_get E G 0 (ci := 7) rfl 2 (C := RX7) (T := TX7) (N := 7) rfl (by decide) mw_fl_7_19 (v := .int 0) rfl dX7_blame_1 ?_
  refine lv_if_ne (tgt := 22) E.1 E.2.1 dX7_blame_4 (by decide) (fun h => absurd (by decide) h) (fun _ => ?_)
  refine lv_aload_n E.1 E.2.1 dX7_blame_7 rfl (lv_at hl 0 rfl) ?_
  refine lv_iconst (v := 1) E.1 E.2.1 dX7_blame_8 (by decide) ?_
  refine lv_bipush (v := 8) E.1 E.2.1 dX7_blame_9 (by decide) ?_
  refine lv_aload_n E.1 E.2.1 dX7_blame_11 rfl (lv_at hl 0 rfl) ?_
  refine m_get E G 0 (ci := 7) rfl 5 (C := RX7) (T := TX7) (N := 7) rfl (by decide) mw_fl_7_28 (v := .int 0) rfl dX7_blame_12 ?_
  refine lv_imul E.1 E.2.1 dX7_blame_15 ?_
  refine m_ci 0 (by decide) ?_
  refine lv_iadd E.1 E.2.1 dX7_blame_16 ?_
  refine m_ci 1 (by decide) ?_
  refine lv_iload_n E.1 E.2.1 dX7_blame_17 rfl (lv_at hl 1 rfl) ?_
  refine lv_iadd E.1 E.2.1 dX7_blame_18 ?_
  refine m_ci 1 (by decide) ?_
  refine m_put E G 0 (ci := 7) rfl 2 (C := RX7) (T := TX7) (N := 7) rfl (by decide) mw_fl_7_19 rfl rfl rfl (Nat.le_of_ble_eq_true rfl) dX7_blame_19 (fun H locs G => ?_)
  have G : mG D A s H locs [(tp, .inr (7, [.ref bt, .int 0, .int 1, .int 40, .int 0, .int 0, .int 0]))] := G
  exact m_retv E G hr (fun _ => 0, fun _ _ => 0, fun _ _ => none) trivial [0] (by decide) rfl (by decide) (by decide) dX7_blame_22
set_option maxHeartbeats 4000000 in
set_option maxRecDepth 100000 in
theorem k_clear (l : Launch) (D : va_G) (K : Nat → ClassId) (dr : Nat) (j0 : Nat) (j1 : Nat) (j2 : Nat) (j3 : Nat) (j4 : Nat) (j5 : Nat) (s0 : Nat) (s1 : Nat) (s2 : Nat) (s3 : Nat) (s4 : Nat) (s5 : Nat) : mV (S := mU) l yX8_clear cX8_clear 2 ({ frames := 0, cells := 0, slots := 0, locals := 0 }) D K [(dr, .inr (8, [.int 0, .int 0, .int 0, .int 0, .ref j0, .ref j1, .ref j2, .ref j3, .ref j4, .ref j5])), (j0, .inl (K 0, 8, .inl (fun _ => 0))), (j4, .inr (6, [.ref s0, .ref s1, .ref s2, .ref s3, .ref s4, .ref s5, .int 0, .int 0]))] [.ref dr] (fun u => True) (fun u => [(dr, .inr (8, [.int 0, .int 0, .int 0, .int 0, .ref j0, .ref j1, .ref j2, .ref j3, .ref j4, .ref j5])), (j0, .inl (K 0, 8, .inl (u.2.1 0))), (j4, .inr (6, [.ref s0, .ref s1, .ref s2, .ref s3, .ref s4, .ref s5, .int 0, .int 0]))]) := by
  refine m_enterV (by decide) (Nat.le_of_ble_eq_true rfl) ?_
  intro p e s m args below meth c A ls E hr hN G hl
  have E : mE p s m meth c cX8_clear args 2 RX8 D K A := E
  have hl : lv_has ls 2 [(0, .ref dr)] := hl
  obtain ⟨H, hH⟩ : ∃ H, H = s.heap := ⟨_, rfl⟩
  obtain ⟨locs, hlo⟩ : ∃ L : List Loc, L = [] := ⟨_, rfl⟩
  rw [← hH, ← hlo] at G
  rw [← hH, ← hlo]
  have G : mG D A s H locs [(dr, .inr (8, [.int 0, .int 0, .int 0, .int 0, .ref j0, .ref j1, .ref j2, .ref j3, .ref j4, .ref j5])), (j0, .inl (K 0, 8, .inl (fun _ => 0))), (j4, .inr (6, [.ref s0, .ref s1, .ref s2, .ref s3, .ref s4, .ref s5, .int 0, .int 0]))] := G
  clear hH hlo
  refine lv_aload_n E.1 E.2.1 dX8_clear_0 rfl (lv_at hl 0 rfl) ?_
  refine lv_iconst (v := 0) E.1 E.2.1 dX8_clear_1 (by decide) ?_
  refine m_put E G 0 (ci := 8) rfl 0 (C := RX8) (T := TX8) (N := 10) rfl (by decide) mw_fl_8_9 rfl rfl rfl (Nat.le_of_ble_eq_true rfl) dX8_clear_2 (fun H locs G => ?_)
  have G : mG D A s H locs [(dr, .inr (8, [.int 0, .int 0, .int 0, .int 0, .ref j0, .ref j1, .ref j2, .ref j3, .ref j4, .ref j5])), (j0, .inl (K 0, 8, .inl (fun _ => 0))), (j4, .inr (6, [.ref s0, .ref s1, .ref s2, .ref s3, .ref s4, .ref s5, .int 0, .int 0]))] := G
  refine lv_aload_n E.1 E.2.1 dX8_clear_5 rfl (lv_at hl 0 rfl) ?_
  refine lv_iconst (v := 0) E.1 E.2.1 dX8_clear_6 (by decide) ?_
  refine m_put E G 0 (ci := 8) rfl 1 (C := RX8) (T := TX8) (N := 10) rfl (by decide) mw_fl_8_15 rfl rfl rfl (Nat.le_of_ble_eq_true rfl) dX8_clear_7 (fun H locs G => ?_)
  have G : mG D A s H locs [(dr, .inr (8, [.int 0, .int 0, .int 0, .int 0, .ref j0, .ref j1, .ref j2, .ref j3, .ref j4, .ref j5])), (j0, .inl (K 0, 8, .inl (fun _ => 0))), (j4, .inr (6, [.ref s0, .ref s1, .ref s2, .ref s3, .ref s4, .ref s5, .int 0, .int 0]))] := G
  refine lv_aload_n E.1 E.2.1 dX8_clear_10 rfl (lv_at hl 0 rfl) ?_
  refine lv_iconst (v := 0) E.1 E.2.1 dX8_clear_11 (by decide) ?_
  refine m_put E G 0 (ci := 8) rfl 2 (C := RX8) (T := TX8) (N := 10) rfl (by decide) mw_fl_8_18 rfl rfl rfl (Nat.le_of_ble_eq_true rfl) dX8_clear_12 (fun H locs G => ?_)
  have G : mG D A s H locs [(dr, .inr (8, [.int 0, .int 0, .int 0, .int 0, .ref j0, .ref j1, .ref j2, .ref j3, .ref j4, .ref j5])), (j0, .inl (K 0, 8, .inl (fun _ => 0))), (j4, .inr (6, [.ref s0, .ref s1, .ref s2, .ref s3, .ref s4, .ref s5, .int 0, .int 0]))] := G
  refine lv_aload_n E.1 E.2.1 dX8_clear_15 rfl (lv_at hl 0 rfl) ?_
  refine lv_iconst (v := 0) E.1 E.2.1 dX8_clear_16 (by decide) ?_
  refine m_put E G 0 (ci := 8) rfl 3 (C := RX8) (T := TX8) (N := 10) rfl (by decide) mw_fl_8_21 rfl rfl rfl (Nat.le_of_ble_eq_true rfl) dX8_clear_17 (fun H locs G => ?_)
  have G : mG D A s H locs [(dr, .inr (8, [.int 0, .int 0, .int 0, .int 0, .ref j0, .ref j1, .ref j2, .ref j3, .ref j4, .ref j5])), (j0, .inl (K 0, 8, .inl (fun _ => 0))), (j4, .inr (6, [.ref s0, .ref s1, .ref s2, .ref s3, .ref s4, .ref s5, .int 0, .int 0]))] := G
  refine lv_aload_n E.1 E.2.1 dX8_clear_20 rfl (lv_at hl 0 rfl) ?_
  refine m_get E G 0 (ci := 8) rfl 8 (C := RX8) (T := TX8) (N := 10) rfl (by decide) mw_fl_8_40 (v := .ref j4) rfl dX8_clear_21 ?_
  refine lv_iconst (v := 0) E.1 E.2.1 dX8_clear_24 (by decide) ?_
  refine m_put E G 2 (ci := 6) rfl 6 (C := RX6) (T := TX6) (N := 8) rfl (by decide) mw_fl_8_47 rfl rfl rfl (Nat.le_of_ble_eq_true rfl) dX8_clear_25 (fun H locs G => ?_)
  have G : mG D A s H locs [(dr, .inr (8, [.int 0, .int 0, .int 0, .int 0, .ref j0, .ref j1, .ref j2, .ref j3, .ref j4, .ref j5])), (j0, .inl (K 0, 8, .inl (fun _ => 0))), (j4, .inr (6, [.ref s0, .ref s1, .ref s2, .ref s3, .ref s4, .ref s5, .int 0, .int 0]))] := G
  refine lv_iconst (v := 0) E.1 E.2.1 dX8_clear_28 (by decide) ?_
  refine lv_istore_n (lv' := [(1, .int 0), (0, .ref dr)]) E.1 E.2.1 dX8_clear_29 rfl hl (by decide) rfl (fun ls hl => ?_)
  refine lv_iload_n E.1 E.2.1 dX8_clear_30 rfl (lv_at hl 0 rfl) ?_
  refine lv_bipush (v := 8) E.1 E.2.1 dX8_clear_31 (by decide) ?_
  refine lv_icmp_ge (tgt := 49) E.1 E.2.1 dX8_clear_33 (by decide) (fun h => absurd h (by decide)) (fun _ => ?_)
  refine lv_aload_n E.1 E.2.1 dX8_clear_36 rfl (lv_at hl 1 rfl) ?_
  refine m_get E G 0 (ci := 8) rfl 4 (C := RX8) (T := TX8) (N := 10) rfl (by decide) mw_fl_8_24 (v := .ref j0) rfl dX8_clear_37 ?_
  refine lv_iload_n E.1 E.2.1 dX8_clear_40 rfl (lv_at hl 0 rfl) ?_
  refine lv_iconst (v := 0) E.1 E.2.1 dX8_clear_41 (by decide) ?_
  refine m_iast E G 1 rfl (by unfold vp_in; decide) dX8_clear_42 (fun H locs G => ?_)
  obtain ⟨f_1, ef_1⟩ : ∃ f_1 : Nat → Int32, f_1 = (upd (fun _ => 0) (0 : Int32).toNatClampNeg (0 : Int32)) := ⟨_, rfl⟩
  have G : mG D A s H locs [(dr, .inr (8, [.int 0, .int 0, .int 0, .int 0, .ref j0, .ref j1, .ref j2, .ref j3, .ref j4, .ref j5])), (j0, .inl (K 0, 8, .inl f_1)), (j4, .inr (6, [.ref s0, .ref s1, .ref s2, .ref s3, .ref s4, .ref s5, .int 0, .int 0]))] := by subst ef_1; exact G
  clear ef_1
  refine lv_iinc (v := 1) (lv' := [(1, .int 1), (0, .ref dr)]) E.1 E.2.1 dX8_clear_43 hl (k := 0) rfl (by decide) (by decide) rfl (fun ls hl => ?_)
  refine lv_goto (tgt := 30) E.1 E.2.1 dX8_clear_46 (by decide) ?_
  refine lv_iload_n E.1 E.2.1 dX8_clear_30 rfl (lv_at hl 0 rfl) ?_
  refine lv_bipush (v := 8) E.1 E.2.1 dX8_clear_31 (by decide) ?_
  refine lv_icmp_ge (tgt := 49) E.1 E.2.1 dX8_clear_33 (by decide) (fun h => absurd h (by decide)) (fun _ => ?_)
  refine lv_aload_n E.1 E.2.1 dX8_clear_36 rfl (lv_at hl 1 rfl) ?_
  refine m_get E G 0 (ci := 8) rfl 4 (C := RX8) (T := TX8) (N := 10) rfl (by decide) mw_fl_8_24 (v := .ref j0) rfl dX8_clear_37 ?_
  refine lv_iload_n E.1 E.2.1 dX8_clear_40 rfl (lv_at hl 0 rfl) ?_
  refine lv_iconst (v := 0) E.1 E.2.1 dX8_clear_41 (by decide) ?_
  refine m_iast E G 1 rfl (by unfold vp_in; decide) dX8_clear_42 (fun H locs G => ?_)
  obtain ⟨f_2, ef_2⟩ : ∃ f_2 : Nat → Int32, f_2 = (upd f_1 (1 : Int32).toNatClampNeg (0 : Int32)) := ⟨_, rfl⟩
  have G : mG D A s H locs [(dr, .inr (8, [.int 0, .int 0, .int 0, .int 0, .ref j0, .ref j1, .ref j2, .ref j3, .ref j4, .ref j5])), (j0, .inl (K 0, 8, .inl f_2)), (j4, .inr (6, [.ref s0, .ref s1, .ref s2, .ref s3, .ref s4, .ref s5, .int 0, .int 0]))] := by subst ef_2; exact G
  clear ef_2
  refine lv_iinc (v := 2) (lv' := [(1, .int 2), (0, .ref dr)]) E.1 E.2.1 dX8_clear_43 hl (k := 0) rfl (by decide) (by decide) rfl (fun ls hl => ?_)
  refine lv_goto (tgt := 30) E.1 E.2.1 dX8_clear_46 (by decide) ?_
  refine lv_iload_n E.1 E.2.1 dX8_clear_30 rfl (lv_at hl 0 rfl) ?_
  refine lv_bipush (v := 8) E.1 E.2.1 dX8_clear_31 (by decide) ?_
  refine lv_icmp_ge (tgt := 49) E.1 E.2.1 dX8_clear_33 (by decide) (fun h => absurd h (by decide)) (fun _ => ?_)
  refine lv_aload_n E.1 E.2.1 dX8_clear_36 rfl (lv_at hl 1 rfl) ?_
  refine m_get E G 0 (ci := 8) rfl 4 (C := RX8) (T := TX8) (N := 10) rfl (by decide) mw_fl_8_24 (v := .ref j0) rfl dX8_clear_37 ?_
  refine lv_iload_n E.1 E.2.1 dX8_clear_40 rfl (lv_at hl 0 rfl) ?_
  refine lv_iconst (v := 0) E.1 E.2.1 dX8_clear_41 (by decide) ?_
  refine m_iast E G 1 rfl (by unfold vp_in; decide) dX8_clear_42 (fun H locs G => ?_)
  obtain ⟨f_3, ef_3⟩ : ∃ f_3 : Nat → Int32, f_3 = (upd f_2 (2 : Int32).toNatClampNeg (0 : Int32)) := ⟨_, rfl⟩
  have G : mG D A s H locs [(dr, .inr (8, [.int 0, .int 0, .int 0, .int 0, .ref j0, .ref j1, .ref j2, .ref j3, .ref j4, .ref j5])), (j0, .inl (K 0, 8, .inl f_3)), (j4, .inr (6, [.ref s0, .ref s1, .ref s2, .ref s3, .ref s4, .ref s5, .int 0, .int 0]))] := by subst ef_3; exact G
  clear ef_3
  refine lv_iinc (v := 3) (lv' := [(1, .int 3), (0, .ref dr)]) E.1 E.2.1 dX8_clear_43 hl (k := 0) rfl (by decide) (by decide) rfl (fun ls hl => ?_)
  refine lv_goto (tgt := 30) E.1 E.2.1 dX8_clear_46 (by decide) ?_
  refine lv_iload_n E.1 E.2.1 dX8_clear_30 rfl (lv_at hl 0 rfl) ?_
  refine lv_bipush (v := 8) E.1 E.2.1 dX8_clear_31 (by decide) ?_
  refine lv_icmp_ge (tgt := 49) E.1 E.2.1 dX8_clear_33 (by decide) (fun h => absurd h (by decide)) (fun _ => ?_)
  refine lv_aload_n E.1 E.2.1 dX8_clear_36 rfl (lv_at hl 1 rfl) ?_
  refine m_get E G 0 (ci := 8) rfl 4 (C := RX8) (T := TX8) (N := 10) rfl (by decide) mw_fl_8_24 (v := .ref j0) rfl dX8_clear_37 ?_
  refine lv_iload_n E.1 E.2.1 dX8_clear_40 rfl (lv_at hl 0 rfl) ?_
  refine lv_iconst (v := 0) E.1 E.2.1 dX8_clear_41 (by decide) ?_
  refine m_iast E G 1 rfl (by unfold vp_in; decide) dX8_clear_42 (fun H locs G => ?_)
  obtain ⟨f_4, ef_4⟩ : ∃ f_4 : Nat → Int32, f_4 = (upd f_3 (3 : Int32).toNatClampNeg (0 : Int32)) := ⟨_, rfl⟩
  have G : mG D A s H locs [(dr, .inr (8, [.int 0, .int 0, .int 0, .int 0, .ref j0, .ref j1, .ref j2, .ref j3, .ref j4, .ref j5])), (j0, .inl (K 0, 8, .inl f_4)), (j4, .inr (6, [.ref s0, .ref s1, .ref s2, .ref s3, .ref s4, .ref s5, .int 0, .int 0]))] := by subst ef_4; exact G
  clear ef_4
  refine lv_iinc (v := 4) (lv' := [(1, .int 4), (0, .ref dr)]) E.1 E.2.1 dX8_clear_43 hl (k := 0) rfl (by decide) (by decide) rfl (fun ls hl => ?_)
  refine lv_goto (tgt := 30) E.1 E.2.1 dX8_clear_46 (by decide) ?_
  refine lv_iload_n E.1 E.2.1 dX8_clear_30 rfl (lv_at hl 0 rfl) ?_
  refine lv_bipush (v := 8) E.1 E.2.1 dX8_clear_31 (by decide) ?_
  refine lv_icmp_ge (tgt := 49) E.1 E.2.1 dX8_clear_33 (by decide) (fun h => absurd h (by decide)) (fun _ => ?_)
  refine lv_aload_n E.1 E.2.1 dX8_clear_36 rfl (lv_at hl 1 rfl) ?_
  refine m_get E G 0 (ci := 8) rfl 4 (C := RX8) (T := TX8) (N := 10) rfl (by decide) mw_fl_8_24 (v := .ref j0) rfl dX8_clear_37 ?_
  refine lv_iload_n E.1 E.2.1 dX8_clear_40 rfl (lv_at hl 0 rfl) ?_
  refine lv_iconst (v := 0) E.1 E.2.1 dX8_clear_41 (by decide) ?_
  refine m_iast E G 1 rfl (by unfold vp_in; decide) dX8_clear_42 (fun H locs G => ?_)
  obtain ⟨f_5, ef_5⟩ : ∃ f_5 : Nat → Int32, f_5 = (upd f_4 (4 : Int32).toNatClampNeg (0 : Int32)) := ⟨_, rfl⟩
  have G : mG D A s H locs [(dr, .inr (8, [.int 0, .int 0, .int 0, .int 0, .ref j0, .ref j1, .ref j2, .ref j3, .ref j4, .ref j5])), (j0, .inl (K 0, 8, .inl f_5)), (j4, .inr (6, [.ref s0, .ref s1, .ref s2, .ref s3, .ref s4, .ref s5, .int 0, .int 0]))] := by subst ef_5; exact G
  clear ef_5
  refine lv_iinc (v := 5) (lv' := [(1, .int 5), (0, .ref dr)]) E.1 E.2.1 dX8_clear_43 hl (k := 0) rfl (by decide) (by decide) rfl (fun ls hl => ?_)
  refine lv_goto (tgt := 30) E.1 E.2.1 dX8_clear_46 (by decide) ?_
  refine lv_iload_n E.1 E.2.1 dX8_clear_30 rfl (lv_at hl 0 rfl) ?_
  refine lv_bipush (v := 8) E.1 E.2.1 dX8_clear_31 (by decide) ?_
  refine lv_icmp_ge (tgt := 49) E.1 E.2.1 dX8_clear_33 (by decide) (fun h => absurd h (by decide)) (fun _ => ?_)
  refine lv_aload_n E.1 E.2.1 dX8_clear_36 rfl (lv_at hl 1 rfl) ?_
  refine m_get E G 0 (ci := 8) rfl 4 (C := RX8) (T := TX8) (N := 10) rfl (by decide) mw_fl_8_24 (v := .ref j0) rfl dX8_clear_37 ?_
  refine lv_iload_n E.1 E.2.1 dX8_clear_40 rfl (lv_at hl 0 rfl) ?_
  refine lv_iconst (v := 0) E.1 E.2.1 dX8_clear_41 (by decide) ?_
  refine m_iast E G 1 rfl (by unfold vp_in; decide) dX8_clear_42 (fun H locs G => ?_)
  obtain ⟨f_6, ef_6⟩ : ∃ f_6 : Nat → Int32, f_6 = (upd f_5 (5 : Int32).toNatClampNeg (0 : Int32)) := ⟨_, rfl⟩
  have G : mG D A s H locs [(dr, .inr (8, [.int 0, .int 0, .int 0, .int 0, .ref j0, .ref j1, .ref j2, .ref j3, .ref j4, .ref j5])), (j0, .inl (K 0, 8, .inl f_6)), (j4, .inr (6, [.ref s0, .ref s1, .ref s2, .ref s3, .ref s4, .ref s5, .int 0, .int 0]))] := by subst ef_6; exact G
  clear ef_6
  refine lv_iinc (v := 6) (lv' := [(1, .int 6), (0, .ref dr)]) E.1 E.2.1 dX8_clear_43 hl (k := 0) rfl (by decide) (by decide) rfl (fun ls hl => ?_)
  refine lv_goto (tgt := 30) E.1 E.2.1 dX8_clear_46 (by decide) ?_
  refine lv_iload_n E.1 E.2.1 dX8_clear_30 rfl (lv_at hl 0 rfl) ?_
  refine lv_bipush (v := 8) E.1 E.2.1 dX8_clear_31 (by decide) ?_
  refine lv_icmp_ge (tgt := 49) E.1 E.2.1 dX8_clear_33 (by decide) (fun h => absurd h (by decide)) (fun _ => ?_)
  refine lv_aload_n E.1 E.2.1 dX8_clear_36 rfl (lv_at hl 1 rfl) ?_
  refine m_get E G 0 (ci := 8) rfl 4 (C := RX8) (T := TX8) (N := 10) rfl (by decide) mw_fl_8_24 (v := .ref j0) rfl dX8_clear_37 ?_
  refine lv_iload_n E.1 E.2.1 dX8_clear_40 rfl (lv_at hl 0 rfl) ?_
  refine lv_iconst (v := 0) E.1 E.2.1 dX8_clear_41 (by decide) ?_
  refine m_iast E G 1 rfl (by unfold vp_in; decide) dX8_clear_42 (fun H locs G => ?_)
  obtain ⟨f_7, ef_7⟩ : ∃ f_7 : Nat → Int32, f_7 = (upd f_6 (6 : Int32).toNatClampNeg (0 : Int32)) := ⟨_, rfl⟩
  have G : mG D A s H locs [(dr, .inr (8, [.int 0, .int 0, .int 0, .int 0, .ref j0, .ref j1, .ref j2, .ref j3, .ref j4, .ref j5])), (j0, .inl (K 0, 8, .inl f_7)), (j4, .inr (6, [.ref s0, .ref s1, .ref s2, .ref s3, .ref s4, .ref s5, .int 0, .int 0]))] := by subst ef_7; exact G
  clear ef_7
  refine lv_iinc (v := 7) (lv' := [(1, .int 7), (0, .ref dr)]) E.1 E.2.1 dX8_clear_43 hl (k := 0) rfl (by decide) (by decide) rfl (fun ls hl => ?_)
  refine lv_goto (tgt := 30) E.1 E.2.1 dX8_clear_46 (by decide) ?_
  refine lv_iload_n E.1 E.2.1 dX8_clear_30 rfl (lv_at hl 0 rfl) ?_
  refine lv_bipush (v := 8) E.1 E.2.1 dX8_clear_31 (by decide) ?_
  refine lv_icmp_ge (tgt := 49) E.1 E.2.1 dX8_clear_33 (by decide) (fun h => absurd h (by decide)) (fun _ => ?_)
  refine lv_aload_n E.1 E.2.1 dX8_clear_36 rfl (lv_at hl 1 rfl) ?_
  refine m_get E G 0 (ci := 8) rfl 4 (C := RX8) (T := TX8) (N := 10) rfl (by decide) mw_fl_8_24 (v := .ref j0) rfl dX8_clear_37 ?_
  refine lv_iload_n E.1 E.2.1 dX8_clear_40 rfl (lv_at hl 0 rfl) ?_
  refine lv_iconst (v := 0) E.1 E.2.1 dX8_clear_41 (by decide) ?_
  refine m_iast E G 1 rfl (by unfold vp_in; decide) dX8_clear_42 (fun H locs G => ?_)
  obtain ⟨f_8, ef_8⟩ : ∃ f_8 : Nat → Int32, f_8 = (upd f_7 (7 : Int32).toNatClampNeg (0 : Int32)) := ⟨_, rfl⟩
  have G : mG D A s H locs [(dr, .inr (8, [.int 0, .int 0, .int 0, .int 0, .ref j0, .ref j1, .ref j2, .ref j3, .ref j4, .ref j5])), (j0, .inl (K 0, 8, .inl f_8)), (j4, .inr (6, [.ref s0, .ref s1, .ref s2, .ref s3, .ref s4, .ref s5, .int 0, .int 0]))] := by subst ef_8; exact G
  clear ef_8
  refine lv_iinc (v := 8) (lv' := [(1, .int 8), (0, .ref dr)]) E.1 E.2.1 dX8_clear_43 hl (k := 0) rfl (by decide) (by decide) rfl (fun ls hl => ?_)
  refine lv_goto (tgt := 30) E.1 E.2.1 dX8_clear_46 (by decide) ?_
  refine lv_iload_n E.1 E.2.1 dX8_clear_30 rfl (lv_at hl 0 rfl) ?_
  refine lv_bipush (v := 8) E.1 E.2.1 dX8_clear_31 (by decide) ?_
  refine lv_icmp_ge (tgt := 49) E.1 E.2.1 dX8_clear_33 (by decide) (fun _ => ?_) (fun h => absurd (by decide) h)
  exact m_retv E G hr (fun _ => 0, fun k => ([f_8] : List (Nat → Int32)).getD k (fun _ => 0), fun _ _ => none) trivial [0, 1, 2] (by decide) rfl (by decide) (by decide) dX8_clear_49
