theorem dX10_walkersAtHome_0 : decode cX10_walkersAtHome 0 = .ok (.iconst 0, 1) := by decide +kernel
theorem dX10_walkersAtHome_1 : decode cX10_walkersAtHome 1 = .ok (.istore_n 1, 1) := by decide +kernel
theorem dX10_walkersAtHome_2 : decode cX10_walkersAtHome 2 = .ok (.iconst 0, 1) := by decide +kernel
theorem dX10_walkersAtHome_3 : decode cX10_walkersAtHome 3 = .ok (.istore_n 2, 1) := by decide +kernel
theorem dX10_walkersAtHome_4 : decode cX10_walkersAtHome 4 = .ok (.iload_n 2, 1) := by decide +kernel
theorem dX10_walkersAtHome_5 : decode cX10_walkersAtHome 5 = .ok (.aload_n 0, 1) := by decide +kernel
theorem dX10_walkersAtHome_6 : decode cX10_walkersAtHome 6 = .ok (.getfield 55, 3) := by decide +kernel
theorem dX10_walkersAtHome_9 : decode cX10_walkersAtHome 9 = .ok (.getfield 114, 3) := by decide +kernel
theorem dX10_walkersAtHome_12 : decode cX10_walkersAtHome 12 = .ok (.getfield 140, 3) := by decide +kernel
theorem dX10_walkersAtHome_15 : decode cX10_walkersAtHome 15 = .ok (.if_icmp .ge 42, 3) := by decide +kernel
theorem dX10_walkersAtHome_57 : decode cX10_walkersAtHome 57 = .ok (.iload_n 1, 1) := by decide +kernel
theorem dX10_walkersAtHome_58 : decode cX10_walkersAtHome 58 = .ok (.ireturn, 1) := by decide +kernel
theorem dX6_allCharges_0 : decode cX6_allCharges 0 = .ok (.iconst 0, 1) := by decide +kernel
theorem dX6_allCharges_1 : decode cX6_allCharges 1 = .ok (.istore_n 2, 1) := by decide +kernel
theorem dX6_allCharges_2 : decode cX6_allCharges 2 = .ok (.iconst 0, 1) := by decide +kernel
theorem dX6_allCharges_3 : decode cX6_allCharges 3 = .ok (.istore_n 3, 1) := by decide +kernel
theorem dX6_allCharges_4 : decode cX6_allCharges 4 = .ok (.iload_n 3, 1) := by decide +kernel
theorem dX6_allCharges_5 : decode cX6_allCharges 5 = .ok (.iload_n 1, 1) := by decide +kernel
theorem dX6_allCharges_6 : decode cX6_allCharges 6 = .ok (.if_icmp .ge 18, 3) := by decide +kernel
theorem dX6_allCharges_24 : decode cX6_allCharges 24 = .ok (.iload_n 2, 1) := by decide +kernel
theorem dX6_allCharges_25 : decode cX6_allCharges 25 = .ok (.ireturn, 1) := by decide +kernel
set_option maxHeartbeats 4000000 in
set_option maxRecDepth 100000 in
theorem k_walkersAtHome (l : Launch) (D : va_G) (K : Nat → ClassId) (h0 : Nat) (tp : Nat) (tr : Nat) (rr : Nat) (dr : Nat) (rs : Nat) (nr : Nat) (nw : Nat) (im : Nat) (ac : Nat) (co : Nat) (al : Nat) (ta : Nat) (ma : Nat) (ga : Nat) (og : Nat) (pl : Nat) (sa : Nat) (no : Nat) (j0 : Nat) (j1 : Nat) (j2 : Nat) (j3 : Nat) (j4 : Nat) (j5 : Nat) : mI (S := mU) l yX10_walkersAtHome cX10_walkersAtHome 3 .int ({ frames := 0, cells := 0, slots := 0, locals := 0 }) D K [(h0, .inr (10, [.ref tp, .ref tr, .ref rr, .ref dr, .ref rs, .int 0, .ref nr, .ref nw, .ref im, .int 0, .ref ac, .ref co, .ref al, .ref ta, .ref ma, .ref ga, .ref og])), (nw, .inr (2, [.ref pl, .ref sa, .ref no, .int (-1), .int 0])), (pl, .inr (8, [.int 0, .int 0, .int 0, .int 0, .ref j0, .ref j1, .ref j2, .ref j3, .ref j4, .ref j5]))] [.ref h0] (fun r u => r = 0) (fun u => []) := by
  refine m_enterI (by decide) (Nat.le_of_ble_eq_true rfl) ?_
  intro p e s m args below meth c A ls E hr G hl
  have E : mE p s m meth c cX10_walkersAtHome args 3 RX10 D K A := E
  have hl : lv_has ls 3 [(0, .ref h0)] := hl
  obtain ⟨H, hH⟩ : ∃ H, H = s.heap := ⟨_, rfl⟩
  obtain ⟨locs, hlo⟩ : ∃ L : List Loc, L = [] := ⟨_, rfl⟩
  rw [← hH, ← hlo] at G
  rw [← hH, ← hlo]
  have G : mG D A s H locs [(h0, .inr (10, [.ref tp, .ref tr, .ref rr, .ref dr, .ref rs, .int 0, .ref nr, .ref nw, .ref im, .int 0, .ref ac, .ref co, .ref al, .ref ta, .ref ma, .ref ga, .ref og])), (nw, .inr (2, [.ref pl, .ref sa, .ref no, .int (-1), .int 0])), (pl, .inr (8, [.int 0, .int 0, .int 0, .int 0, .ref j0, .ref j1, .ref j2, .ref j3, .ref j4, .ref j5]))] := G
  clear hH hlo
  refine lv_iconst (v := 0) E.1 E.2.1 dX10_walkersAtHome_0 (by decide) ?_
  refine lv_istore_n (lv' := [(1, .int 0), (0, .ref h0)]) E.1 E.2.1 dX10_walkersAtHome_1 rfl hl (by decide) rfl (fun ls hl => ?_)
  refine lv_iconst (v := 0) E.1 E.2.1 dX10_walkersAtHome_2 (by decide) ?_
  refine lv_istore_n (lv' := [(2, .int 0), (1, .int 0), (0, .ref h0)]) E.1 E.2.1 dX10_walkersAtHome_3 rfl hl (by decide) rfl (fun ls hl => ?_)
  refine lv_iload_n E.1 E.2.1 dX10_walkersAtHome_4 rfl (lv_at hl 0 rfl) ?_
  refine lv_aload_n E.1 E.2.1 dX10_walkersAtHome_5 rfl (lv_at hl 2 rfl) ?_
  refine m_get E G 0 (ci := 10) rfl 7 (C := RX10) (T := TX10) (N := 17) rfl (by decide) mw_fl_10_55 (v := .ref nw) rfl dX10_walkersAtHome_6 ?_
  refine m_get E G 1 (ci := 2) rfl 0 (C := RX2) (T := TX2) (N := 5) rfl (by decide) mw_fl_10_114 (v := .ref pl) rfl dX10_walkersAtHome_9 ?_
  refine m_get E G 2 (ci := 8) rfl 3 (C := RX8) (T := TX8) (N := 10) rfl (by decide) mw_fl_10_140 (v := .int 0) rfl dX10_walkersAtHome_12 ?_
  refine lv_icmp_ge (tgt := 57) E.1 E.2.1 dX10_walkersAtHome_15 (by decide) (fun _ => ?_) (fun h => absurd (by decide) h)
  refine lv_iload_n E.1 E.2.1 dX10_walkersAtHome_57 rfl (lv_at hl 1 rfl) ?_
  exact m_reti E G hr rfl (fun _ => 0, fun _ _ => 0, fun _ _ => none) rfl [] (by decide) rfl (by decide) (by decide) dX10_walkersAtHome_58
set_option maxHeartbeats 4000000 in
set_option maxRecDepth 100000 in
theorem k_allCharges (l : Launch) (D : va_G) (K : Nat → ClassId) (h0 : Nat) (s0 : Nat) (s1 : Nat) (s2 : Nat) (s3 : Nat) (s4 : Nat) (s5 : Nat) : mI (S := mU) l yX6_allCharges cX6_allCharges 4 .int ({ frames := 0, cells := 0, slots := 0, locals := 0 }) D K [(h0, .inr (6, [.ref s0, .ref s1, .ref s2, .ref s3, .ref s4, .ref s5, .int 0, .int 0]))] [.ref h0, .int 0] (fun r u => r = 0) (fun u => []) := by
  refine m_enterI (by decide) (Nat.le_of_ble_eq_true rfl) ?_
  intro p e s m args below meth c A ls E hr G hl
  have E : mE p s m meth c cX6_allCharges args 4 RX6 D K A := E
  have hl : lv_has ls 4 [(0, .ref h0), (1, .int 0)] := hl
  obtain ⟨H, hH⟩ : ∃ H, H = s.heap := ⟨_, rfl⟩
  obtain ⟨locs, hlo⟩ : ∃ L : List Loc, L = [] := ⟨_, rfl⟩
  rw [← hH, ← hlo] at G
  rw [← hH, ← hlo]
  have G : mG D A s H locs [(h0, .inr (6, [.ref s0, .ref s1, .ref s2, .ref s3, .ref s4, .ref s5, .int 0, .int 0]))] := G
  clear hH hlo
  refine lv_iconst (v := 0) E.1 E.2.1 dX6_allCharges_0 (by decide) ?_
  refine lv_istore_n (lv' := [(2, .int 0), (0, .ref h0), (1, .int 0)]) E.1 E.2.1 dX6_allCharges_1 rfl hl (by decide) rfl (fun ls hl => ?_)
  refine lv_iconst (v := 0) E.1 E.2.1 dX6_allCharges_2 (by decide) ?_
  refine lv_istore_n (lv' := [(3, .int 0), (2, .int 0), (0, .ref h0), (1, .int 0)]) E.1 E.2.1 dX6_allCharges_3 rfl hl (by decide) rfl (fun ls hl => ?_)
  refine lv_iload_n E.1 E.2.1 dX6_allCharges_4 rfl (lv_at hl 0 rfl) ?_
  refine lv_iload_n E.1 E.2.1 dX6_allCharges_5 rfl (lv_at hl 3 rfl) ?_
  refine lv_icmp_ge (tgt := 24) E.1 E.2.1 dX6_allCharges_6 (by decide) (fun _ => ?_) (fun h => absurd (by decide) h)
  refine lv_iload_n E.1 E.2.1 dX6_allCharges_24 rfl (lv_at hl 1 rfl) ?_
  exact m_reti E G hr rfl (fun _ => 0, fun _ _ => 0, fun _ _ => none) rfl [] (by decide) rfl (by decide) (by decide) dX6_allCharges_25
