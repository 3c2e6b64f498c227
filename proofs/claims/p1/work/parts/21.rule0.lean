theorem mw_fl_5_75 : (Cond.fieldLink RX5 75 "LureTown$Tape" "token" "I" : Cond) ∈ cw := cw_of (List.mem_append_right _ (List.mem_append_left _ (List.mem_of_getElem? (i := 44) (by decide +kernel)))) (by decide +kernel)
theorem mw_ml_5_78 : (Cond.methodLink RX5 78 yX7_blame : Cond) ∈ cw := cw_of (List.mem_append_right _ (List.mem_append_right _ (List.mem_append_right _ (List.mem_append_left _ (List.mem_of_getElem? (i := 199) (by decide +kernel)))))) (by decide +kernel)
theorem dX4_clear_0 : decode cX4_clear 0 = .ok (.aload_n 0, 1) := by decide +kernel
theorem dX4_clear_1 : decode cX4_clear 1 = .ok (.iconst 0, 1) := by decide +kernel
theorem dX4_clear_2 : decode cX4_clear 2 = .ok (.putfield 9, 3) := by decide +kernel
theorem dX4_clear_5 : decode cX4_clear 5 = .ok (.aload_n 0, 1) := by decide +kernel
theorem dX4_clear_6 : decode cX4_clear 6 = .ok (.iconst 0, 1) := by decide +kernel
theorem dX4_clear_7 : decode cX4_clear 7 = .ok (.putfield 19, 3) := by decide +kernel
theorem dX4_clear_10 : decode cX4_clear 10 = .ok (.aload_n 0, 1) := by decide +kernel
theorem dX4_clear_11 : decode cX4_clear 11 = .ok (.getfield 25, 3) := by decide +kernel
theorem dX4_clear_14 : decode cX4_clear 14 = .ok (.iconst 0, 1) := by decide +kernel
theorem dX4_clear_15 : decode cX4_clear 15 = .ok (.iconst (-1), 1) := by decide +kernel
theorem dX4_clear_16 : decode cX4_clear 16 = .ok (.iastore, 1) := by decide +kernel
theorem dX4_clear_17 : decode cX4_clear 17 = .ok (.return_, 1) := by decide +kernel
theorem dX5_takeClause_0 : decode cX5_takeClause 0 = .ok (.aload_n 0, 1) := by decide +kernel
theorem dX5_takeClause_1 : decode cX5_takeClause 1 = .ok (.getfield 12, 3) := by decide +kernel
theorem dX5_takeClause_4 : decode cX5_takeClause 4 = .ok (.getfield 75, 3) := by decide +kernel
theorem dX5_takeClause_7 : decode cX5_takeClause 7 = .ok (.bipush 11, 2) := by decide +kernel
theorem dX5_takeClause_9 : decode cX5_takeClause 9 = .ok (.if_icmp .eq 14, 3) := by decide +kernel
theorem dX5_takeClause_12 : decode cX5_takeClause 12 = .ok (.aload_n 0, 1) := by decide +kernel
theorem dX5_takeClause_13 : decode cX5_takeClause 13 = .ok (.getfield 12, 3) := by decide +kernel
theorem dX5_takeClause_16 : decode cX5_takeClause 16 = .ok (.iconst 0, 1) := by decide +kernel
theorem dX5_takeClause_17 : decode cX5_takeClause 17 = .ok (.invokevirtual 78, 3) := by decide +kernel
theorem dX5_takeClause_20 : decode cX5_takeClause 20 = .ok (.goto 36, 3) := by decide +kernel
theorem dX5_takeClause_56 : decode cX5_takeClause 56 = .ok (.return_, 1) := by decide +kernel
set_option maxHeartbeats 4000000 in
set_option maxRecDepth 100000 in
theorem k_rclear (l : Launch) (D : va_G) (K : Nat → ClassId) (ru : Nat) (c0 : Nat) (c1 : Nat) (c2 : Nat) (c3 : Nat) : mV (S := mU) l yX4_clear cX4_clear 1 ({ frames := 0, cells := 0, slots := 0, locals := 0 }) D K [(ru, .inr (4, [.int 0, .ref c0, .int 0, .ref c1, .ref c2, .ref c3])), (c2, .inl (K 0, 13, .inl (fun _ => 0)))] [.ref ru] (fun u => True) (fun u => [(ru, .inr (4, [.int 0, .ref c0, .int 0, .ref c1, .ref c2, .ref c3])), (c2, .inl (K 0, 13, .inl (u.2.1 0)))]) := by
  refine m_enterV (by decide) (Nat.le_of_ble_eq_true rfl) ?_
  intro p e s m args below meth c A ls E hr hN G hl
  have E : mE p s m meth c cX4_clear args 1 RX4 D K A := E
  have hl : lv_has ls 1 [(0, .ref ru)] := hl
  obtain ⟨H, hH⟩ : ∃ H, H = s.heap := ⟨_, rfl⟩
  obtain ⟨locs, hlo⟩ : ∃ L : List Loc, L = [] := ⟨_, rfl⟩
  rw [← hH, ← hlo] at G
  rw [← hH, ← hlo]
  have G : mG D A s H locs [(ru, .inr (4, [.int 0, .ref c0, .int 0, .ref c1, .ref c2, .ref c3])), (c2, .inl (K 0, 13, .inl (fun _ => 0)))] := G
  clear hH hlo
  refine lv_aload_n E.1 E.2.1 dX4_clear_0 rfl (lv_at hl 0 rfl) ?_
  refine lv_iconst (v := 0) E.1 E.2.1 dX4_clear_1 (by decide) ?_
  refine m_put E G 0 (ci := 4) rfl 0 (C := RX4) (T := TX4) (N := 6) rfl (by decide) mw_fl_4_9 rfl rfl rfl (Nat.le_of_ble_eq_true rfl) dX4_clear_2 (fun H locs G => ?_)
  have G : mG D A s H locs [(ru, .inr (4, [.int 0, .ref c0, .int 0, .ref c1, .ref c2, .ref c3])), (c2, .inl (K 0, 13, .inl (fun _ => 0)))] := G
  refine lv_aload_n E.1 E.2.1 dX4_clear_5 rfl (lv_at hl 0 rfl) ?_
  refine lv_iconst (v := 0) E.1 E.2.1 dX4_clear_6 (by decide) ?_
  refine m_put E G 0 (ci := 4) rfl 2 (C := RX4) (T := TX4) (N := 6) rfl (by decide) mw_fl_4_19 rfl rfl rfl (Nat.le_of_ble_eq_true rfl) dX4_clear_7 (fun H locs G => ?_)
  have G : mG D A s H locs [(ru, .inr (4, [.int 0, .ref c0, .int 0, .ref c1, .ref c2, .ref c3])), (c2, .inl (K 0, 13, .inl (fun _ => 0)))] := G
  refine lv_aload_n E.1 E.2.1 dX4_clear_10 rfl (lv_at hl 0 rfl) ?_
  refine m_get E G 0 (ci := 4) rfl 4 (C := RX4) (T := TX4) (N := 6) rfl (by decide) mw_fl_4_25 (v := .ref c2) rfl dX4_clear_11 ?_
  refine lv_iconst (v := 0) E.1 E.2.1 dX4_clear_14 (by decide) ?_
  refine lv_iconst (v := (-1)) E.1 E.2.1 dX4_clear_15 (by decide) ?_
  refine m_iast E G 1 rfl (by unfold vp_in; decide) dX4_clear_16 (fun H locs G => ?_)
  obtain ⟨f_1, ef_1⟩ : ∃ f_1 : Nat → Int32, f_1 = (upd (fun _ => 0) (0 : Int32).toNatClampNeg (-1 : Int32)) := ⟨_, rfl⟩
  have G : mG D A s H locs [(ru, .inr (4, [.int 0, .ref c0, .int 0, .ref c1, .ref c2, .ref c3])), (c2, .inl (K 0, 13, .inl f_1))] := by subst ef_1; exact G
  clear ef_1
  exact m_retv E G hr (fun _ => 0, fun k => ([f_1] : List (Nat → Int32)).getD k (fun _ => 0), fun _ _ => none) trivial [0, 1] (by decide) rfl (by decide) (by decide) dX4_clear_17
set_option maxHeartbeats 4000000 in
set_option maxRecDepth 100000 in
theorem k_takeClause (l : Launch) (D : va_G) (K : Nat → ClassId) (rr : Nat) (r1 : Nat) (ru : Nat) (tp : Nat) (bt : Nat) : mV (S := mU) l yX5_takeClause cX5_takeClause 1 ({ frames := 1, cells := 0, slots := 0, locals := 21 }) D K [(rr, .inr (5, [.ref tp, .ref r1, .int 0, .int 0, .int 0, .int 0, .int 0, .int 0, .ref ru])), (tp, .inr (7, [.ref bt, .int 0, .int 0, .int 40, .int 0, .int 0, .int 0]))] [.ref rr] (fun u => True) (fun u => [(rr, .inr (5, [.ref tp, .ref r1, .int 0, .int 0, .int 0, .int 0, .int 0, .int 0, .ref ru])), (tp, .inr (7, [.ref bt, .int 0, .int 1, .int 40, .int 0, .int 0, .int 0]))]) := by
  refine m_enterV (by decide) (Nat.le_of_ble_eq_true rfl) ?_
  intro p e s m args below meth c A ls E hr hN G hl
  have E : mE p s m meth c cX5_takeClause args 1 RX5 D K A := E
  have hl : lv_has ls 1 [(0, .ref rr)] := hl
  obtain ⟨H, hH⟩ : ∃ H, H = s.heap := ⟨_, rfl⟩
  obtain ⟨locs, hlo⟩ : ∃ L : List Loc, L = [] := ⟨_, rfl⟩
  rw [← hH, ← hlo] at G
  rw [← hH, ← hlo]
  have G : mG D A s H locs [(rr, .inr (5, [.ref tp, .ref r1, .int 0, .int 0, .int 0, .int 0, .int 0, .int 0, .ref ru])), (tp, .inr (7, [.ref bt, .int 0, .int 0, .int 40, .int 0, .int 0, .int 0]))] := G
  clear hH hlo
  refine lv_aload_n E.1 E.2.1 dX5_takeClause_0 rfl (lv_at hl 0 rfl) ?_
  refine m_get E G 0 (ci := 5) rfl 0 (C := RX5) (T := TX5) (N := 9) rfl (by decide) mw_fl_5_12 (v := .ref tp) rfl dX5_takeClause_1 ?_
  refine m_get E G 1 (ci := 7) rfl 3 (C := RX7) (T := TX7) (N := 7) rfl (by decide) mw_fl_5_75 (v := .int 40) rfl dX5_takeClause_4 ?_
  refine lv_bipush (v := 11) E.1 E.2.1 dX5_takeClause_7 (by decide) ?_
  refine lv_icmp_eq (tgt := 23) E.1 E.2.1 dX5_takeClause_9 (by decide) (fun h => absurd h (by decide)) (fun _ => ?_)
  refine lv_aload_n E.1 E.2.1 dX5_takeClause_12 rfl (lv_at hl 0 rfl) ?_
  refine m_get E G 0 (ci := 5) rfl 0 (C := RX5) (T := TX5) (N := 9) rfl (by decide) mw_fl_5_12 (v := .ref tp) rfl dX5_takeClause_13 ?_
  refine lv_iconst (v := 0) E.1 E.2.1 dX5_takeClause_16 (by decide) ?_
  refine m_vv E G hl (k_blame l D K tp bt) (wr := [(rr, .inr (5, [.ref tp, .ref r1, .int 0, .int 0, .int 0, .int 0, .int 0, .int 0, .ref ru]))]) [1] [0] rfl rfl (by decide) (by decide) (by decide) 0 (ci := 7) rfl rfl rfl 1 rfl mw_code_X7_blame mw_ini_7 mw_ml_5_78 mw_inst_X7_blame mw_sel_X7_blame hd_X7_blame ⟨by decide, by decide⟩ rfl (Nat.le_of_ble_eq_true rfl) ⟨by decide, by decide⟩ dX5_takeClause_17 (fun u_1 H locs hp G => ?_)
  have G : mG D A s H locs [(rr, .inr (5, [.ref tp, .ref r1, .int 0, .int 0, .int 0, .int 0, .int 0, .int 0, .ref ru])), (tp, .inr (7, [.ref bt, .int 0, .int 1, .int 40, .int 0, .int 0, .int 0]))] := G
  refine lv_goto (tgt := 56) E.1 E.2.1 dX5_takeClause_20 (by decide) ?_
  exact m_retv E G hr (fun _ => 0, fun _ _ => 0, fun _ _ => none) trivial [0, 1] (by decide) rfl (by decide) (by decide) dX5_takeClause_56
