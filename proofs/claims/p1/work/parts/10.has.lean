theorem mw_fl_10_114 : (Cond.fieldLink RX10 114 "LureTown$Moment" "place" "LLureTown$Town;" : Cond) ∈ cw := cw_of (List.mem_append_right _ (List.mem_append_right _ (List.mem_append_left _ (List.mem_of_getElem? (i := 52) (by decide +kernel))))) (by decide +kernel)
theorem mw_fl_10_140 : (Cond.fieldLink RX10 140 "LureTown$Town" "walkerCount" "I" : Cond) ∈ cw := cw_of (List.mem_append_right _ (List.mem_append_left _ (List.mem_of_getElem? (i := 147) (by decide +kernel)))) (by decide +kernel)
theorem mw_fl_10_192 : (Cond.fieldLink RX10 192 "LureTown$Town" "cornerCount" "I" : Cond) ∈ cw := cw_of (List.mem_append_right _ (List.mem_append_left _ (List.mem_of_getElem? (i := 137) (by decide +kernel)))) (by decide +kernel)
theorem mw_fl_10_198 : (Cond.fieldLink RX10 198 "LureTown$Town" "lureCount" "I" : Cond) ∈ cw := cw_of (List.mem_append_right _ (List.mem_append_left _ (List.mem_of_getElem? (i := 143) (by decide +kernel)))) (by decide +kernel)
theorem mw_fl_10_55 : (Cond.fieldLink RX10 55 "LureTown" "now" "LLureTown$Moment;" : Cond) ∈ cw := cw_of (List.mem_append_right _ (List.mem_append_right _ (List.mem_append_left _ (List.mem_of_getElem? (i := 135) (by decide +kernel))))) (by decide +kernel)
theorem dX10_hasCorner_0 : decode cX10_hasCorner 0 = .ok (.iload_n 1, 1) := by decide +kernel
theorem dX10_hasCorner_1 : decode cX10_hasCorner 1 = .ok (.ifCond .lt 21, 3) := by decide +kernel
theorem dX10_hasCorner_4 : decode cX10_hasCorner 4 = .ok (.iload_n 1, 1) := by decide +kernel
theorem dX10_hasCorner_5 : decode cX10_hasCorner 5 = .ok (.aload_n 0, 1) := by decide +kernel
theorem dX10_hasCorner_6 : decode cX10_hasCorner 6 = .ok (.getfield 55, 3) := by decide +kernel
theorem dX10_hasCorner_9 : decode cX10_hasCorner 9 = .ok (.getfield 114, 3) := by decide +kernel
theorem dX10_hasCorner_12 : decode cX10_hasCorner 12 = .ok (.getfield 192, 3) := by decide +kernel
theorem dX10_hasCorner_15 : decode cX10_hasCorner 15 = .ok (.if_icmp .ge 7, 3) := by decide +kernel
theorem dX10_hasCorner_22 : decode cX10_hasCorner 22 = .ok (.iconst 0, 1) := by decide +kernel
theorem dX10_hasCorner_23 : decode cX10_hasCorner 23 = .ok (.ireturn, 1) := by decide +kernel
theorem dX10_hasLure_0 : decode cX10_hasLure 0 = .ok (.iload_n 1, 1) := by decide +kernel
theorem dX10_hasLure_1 : decode cX10_hasLure 1 = .ok (.ifCond .lt 21, 3) := by decide +kernel
theorem dX10_hasLure_4 : decode cX10_hasLure 4 = .ok (.iload_n 1, 1) := by decide +kernel
theorem dX10_hasLure_5 : decode cX10_hasLure 5 = .ok (.aload_n 0, 1) := by decide +kernel
theorem dX10_hasLure_6 : decode cX10_hasLure 6 = .ok (.getfield 55, 3) := by decide +kernel
theorem dX10_hasLure_9 : decode cX10_hasLure 9 = .ok (.getfield 114, 3) := by decide +kernel
theorem dX10_hasLure_12 : decode cX10_hasLure 12 = .ok (.getfield 198, 3) := by decide +kernel
theorem dX10_hasLure_15 : decode cX10_hasLure 15 = .ok (.if_icmp .ge 7, 3) := by decide +kernel
theorem dX10_hasLure_22 : decode cX10_hasLure 22 = .ok (.iconst 0, 1) := by decide +kernel
theorem dX10_hasLure_23 : decode cX10_hasLure 23 = .ok (.ireturn, 1) := by decide +kernel
theorem dX10_hasTown_0 : decode cX10_hasTown 0 = .ok (.aload_n 0, 1) := by decide +kernel
theorem dX10_hasTown_1 : decode cX10_hasTown 1 = .ok (.getfield 55, 3) := by decide +kernel
theorem dX10_hasTown_4 : decode cX10_hasTown 4 = .ok (.getfield 114, 3) := by decide +kernel
theorem dX10_hasTown_7 : decode cX10_hasTown 7 = .ok (.getfield 192, 3) := by decide +kernel
theorem dX10_hasTown_10 : decode cX10_hasTown 10 = .ok (.ifCond .le 7, 3) := by decide +kernel
theorem dX10_hasTown_17 : decode cX10_hasTown 17 = .ok (.iconst 0, 1) := by decide +kernel
theorem dX10_hasTown_18 : decode cX10_hasTown 18 = .ok (.ireturn, 1) := by decide +kernel
theorem dX10_hasWalker_0 : decode cX10_hasWalker 0 = .ok (.iload_n 1, 1) := by decide +kernel
theorem dX10_hasWalker_1 : decode cX10_hasWalker 1 = .ok (.ifCond .lt 21, 3) := by decide +kernel
theorem dX10_hasWalker_4 : decode cX10_hasWalker 4 = .ok (.iload_n 1, 1) := by decide +kernel
theorem dX10_hasWalker_5 : decode cX10_hasWalker 5 = .ok (.aload_n 0, 1) := by decide +kernel
theorem dX10_hasWalker_6 : decode cX10_hasWalker 6 = .ok (.getfield 55, 3) := by decide +kernel
theorem dX10_hasWalker_9 : decode cX10_hasWalker 9 = .ok (.getfield 114, 3) := by decide +kernel
theorem dX10_hasWalker_12 : decode cX10_hasWalker 12 = .ok (.getfield 140, 3) := by decide +kernel
theorem dX10_hasWalker_15 : decode cX10_hasWalker 15 = .ok (.if_icmp .ge 7, 3) := by decide +kernel
theorem dX10_hasWalker_22 : decode cX10_hasWalker 22 = .ok (.iconst 0, 1) := by decide +kernel
theorem dX10_hasWalker_23 : decode cX10_hasWalker 23 = .ok (.ireturn, 1) := by decide +kernel
set_option maxHeartbeats 4000000 in
set_option maxRecDepth 100000 in
theorem k_hasTown (l : Launch) (D : va_G) (K : Nat → ClassId) (h0 : Nat) (tp : Nat) (tr : Nat) (rr : Nat) (dr : Nat) (rs : Nat) (nr : Nat) (nw : Nat) (im : Nat) (ac : Nat) (co : Nat) (al : Nat) (ta : Nat) (ma : Nat) (ga : Nat) (og : Nat) (pl : Nat) (sa : Nat) (no : Nat) (j0 : Nat) (j1 : Nat) (j2 : Nat) (j3 : Nat) (j4 : Nat) (j5 : Nat) : mI (S := mU) l yX10_hasTown cX10_hasTown 1 .boolean ({ frames := 0, cells := 0, slots := 0, locals := 0 }) D K [(h0, .inr (10, [.ref tp, .ref tr, .ref rr, .ref dr, .ref rs, .int 0, .ref nr, .ref nw, .ref im, .int 0, .ref ac, .ref co, .ref al, .ref ta, .ref ma, .ref ga, .ref og])), (nw, .inr (2, [.ref pl, .ref sa, .ref no, .int (-1), .int 0])), (pl, .inr (8, [.int 0, .int 0, .int 0, .int 0, .ref j0, .ref j1, .ref j2, .ref j3, .ref j4, .ref j5]))] [.ref h0] (fun r u => r = 0) (fun u => []) := by
  refine m_enterI (by decide) (Nat.le_of_ble_eq_true rfl) ?_
  intro p e s m args below meth c A ls E hr G hl
  have E : mE p s m meth c cX10_hasTown args 1 RX10 D K A := E
  have hl : lv_has ls 1 [(0, .ref h0)] := hl
  obtain ⟨H, hH⟩ : ∃ H, H = s.heap := ⟨_, rfl⟩
  obtain ⟨locs, hlo⟩ : ∃ L : List Loc, L = [] := ⟨_, rfl⟩
  rw [← hH, ← hlo] at G
  rw [← hH, ← hlo]
  have G : mG D A s H locs [(h0, .inr (10, [.ref tp, .ref tr, .ref rr, .ref dr, .ref rs, .int 0, .ref nr, .ref nw, .ref im, .int 0, .ref ac, .ref co, .ref al, .ref ta, .ref ma, .ref ga, .ref og])), (nw, .inr (2, [.ref pl, .ref sa, .ref no, .int (-1), .int 0])), (pl, .inr (8, [.int 0, .int 0, .int 0, .int 0, .ref j0, .ref j1, .ref j2, .ref j3, .ref j4, .ref j5]))] := G
  clear hH hlo
  refine lv_aload_n E.1 E.2.1 dX10_hasTown_0 rfl (lv_at hl 0 rfl) ?_
  refine m_get E G 0 (ci := 10) rfl 7 (C := RX10) (T := TX10) (N := 17) rfl (by decide) mw_fl_10_55 (v := .ref nw) rfl dX10_hasTown_1 ?_
  refine m_get E G 1 (ci := 2) rfl 0 (C := RX2) (T := TX2) (N := 5) rfl (by decide) mw_fl_10_114 (v := .ref pl) rfl dX10_hasTown_4 ?_
  refine m_get E G 2 (ci := 8) rfl 0 (C := RX8) (T := TX8) (N := 10) rfl (by decide) mw_fl_10_192 (v := .int 0) rfl dX10_hasTown_7 ?_
  refine lv_if_le (tgt := 17) E.1 E.2.1 dX10_hasTown_10 (by decide) (fun _ => ?_) (fun h => absurd (by decide) h)
  refine lv_iconst (v := 0) E.1 E.2.1 dX10_hasTown_17 (by decide) ?_
  exact m_reti E G hr (by decide) (fun _ => 0, fun _ _ => 0, fun _ _ => none) rfl [] (by decide) rfl (by decide) (by decide) dX10_hasTown_18
set_option maxHeartbeats 4000000 in
set_option maxRecDepth 100000 in
theorem k_hasCorner (l : Launch) (D : va_G) (K : Nat → ClassId) (h0 : Nat) (tp : Nat) (tr : Nat) (rr : Nat) (dr : Nat) (rs : Nat) (nr : Nat) (nw : Nat) (im : Nat) (ac : Nat) (co : Nat) (al : Nat) (ta : Nat) (ma : Nat) (ga : Nat) (og : Nat) (pl : Nat) (sa : Nat) (no : Nat) (j0 : Nat) (j1 : Nat) (j2 : Nat) (j3 : Nat) (j4 : Nat) (j5 : Nat) (p1 : Int32) : mI (S := mU) l yX10_hasCorner cX10_hasCorner 2 .boolean ({ frames := 0, cells := 0, slots := 0, locals := 0 }) D K [(h0, .inr (10, [.ref tp, .ref tr, .ref rr, .ref dr, .ref rs, .int 0, .ref nr, .ref nw, .ref im, .int 0, .ref ac, .ref co, .ref al, .ref ta, .ref ma, .ref ga, .ref og])), (nw, .inr (2, [.ref pl, .ref sa, .ref no, .int (-1), .int 0])), (pl, .inr (8, [.int 0, .int 0, .int 0, .int 0, .ref j0, .ref j1, .ref j2, .ref j3, .ref j4, .ref j5]))] [.ref h0, .int p1] (fun r u => r = 0) (fun u => []) := by
  refine m_enterI (by decide) (Nat.le_of_ble_eq_true rfl) ?_
  intro p e s m args below meth c A ls E hr G hl
  have E : mE p s m meth c cX10_hasCorner args 2 RX10 D K A := E
  have hl : lv_has ls 2 [(0, .ref h0), (1, .int p1)] := hl
  obtain ⟨H, hH⟩ : ∃ H, H = s.heap := ⟨_, rfl⟩
  obtain ⟨locs, hlo⟩ : ∃ L : List Loc, L = [] := ⟨_, rfl⟩
  rw [← hH, ← hlo] at G
  rw [← hH, ← hlo]
  have G : mG D A s H locs [(h0, .inr (10, [.ref tp, .ref tr, .ref rr, .ref dr, .ref rs, .int 0, .ref nr, .ref nw, .ref im, .int 0, .ref ac, .ref co, .ref al, .ref ta, .ref ma, .ref ga, .ref og])), (nw, .inr (2, [.ref pl, .ref sa, .ref no, .int (-1), .int 0])), (pl, .inr (8, [.int 0, .int 0, .int 0, .int 0, .ref j0, .ref j1, .ref j2, .ref j3, .ref j4, .ref j5]))] := G
  clear hH hlo
  refine lv_iload_n E.1 E.2.1 dX10_hasCorner_0 rfl (lv_at hl 1 rfl) ?_
  refine lv_if_lt (tgt := 22) E.1 E.2.1 dX10_hasCorner_1 (by decide) (fun c_1 => ?_) (fun c_1 => ?_)
  · skip
    refine lv_iconst (v := 0) E.1 E.2.1 dX10_hasCorner_22 (by decide) ?_
    exact m_reti E G hr (by decide) (fun _ => 0, fun _ _ => 0, fun _ _ => none) rfl [] (by decide) rfl (by decide) (by decide) dX10_hasCorner_23
  · skip
    refine lv_iload_n E.1 E.2.1 dX10_hasCorner_4 rfl (lv_at hl 1 rfl) ?_
    refine lv_aload_n E.1 E.2.1 dX10_hasCorner_5 rfl (lv_at hl 0 rfl) ?_
    refine m_get E G 0 (ci := 10) rfl 7 (C := RX10) (T := TX10) (N := 17) rfl (by decide) mw_fl_10_55 (v := .ref nw) rfl dX10_hasCorner_6 ?_
    refine m_get E G 1 (ci := 2) rfl 0 (C := RX2) (T := TX2) (N := 5) rfl (by decide) mw_fl_10_114 (v := .ref pl) rfl dX10_hasCorner_9 ?_
    refine m_get E G 2 (ci := 8) rfl 0 (C := RX8) (T := TX8) (N := 10) rfl (by decide) mw_fl_10_192 (v := .int 0) rfl dX10_hasCorner_12 ?_
    refine lv_icmp_ge (tgt := 22) E.1 E.2.1 dX10_hasCorner_15 (by decide) (fun _ => ?_) (fun h => absurd (Int32.not_lt.mp c_1) h)
    refine lv_iconst (v := 0) E.1 E.2.1 dX10_hasCorner_22 (by decide) ?_
    exact m_reti E G hr (by decide) (fun _ => 0, fun _ _ => 0, fun _ _ => none) rfl [] (by decide) rfl (by decide) (by decide) dX10_hasCorner_23
set_option maxHeartbeats 4000000 in
set_option maxRecDepth 100000 in
theorem k_hasLure (l : Launch) (D : va_G) (K : Nat → ClassId) (h0 : Nat) (tp : Nat) (tr : Nat) (rr : Nat) (dr : Nat) (rs : Nat) (nr : Nat) (nw : Nat) (im : Nat) (ac : Nat) (co : Nat) (al : Nat) (ta : Nat) (ma : Nat) (ga : Nat) (og : Nat) (pl : Nat) (sa : Nat) (no : Nat) (j0 : Nat) (j1 : Nat) (j2 : Nat) (j3 : Nat) (j4 : Nat) (j5 : Nat) (p1 : Int32) : mI (S := mU) l yX10_hasLure cX10_hasLure 2 .boolean ({ frames := 0, cells := 0, slots := 0, locals := 0 }) D K [(h0, .inr (10, [.ref tp, .ref tr, .ref rr, .ref dr, .ref rs, .int 0, .ref nr, .ref nw, .ref im, .int 0, .ref ac, .ref co, .ref al, .ref ta, .ref ma, .ref ga, .ref og])), (nw, .inr (2, [.ref pl, .ref sa, .ref no, .int (-1), .int 0])), (pl, .inr (8, [.int 0, .int 0, .int 0, .int 0, .ref j0, .ref j1, .ref j2, .ref j3, .ref j4, .ref j5]))] [.ref h0, .int p1] (fun r u => r = 0) (fun u => []) := by
  refine m_enterI (by decide) (Nat.le_of_ble_eq_true rfl) ?_
  intro p e s m args below meth c A ls E hr G hl
  have E : mE p s m meth c cX10_hasLure args 2 RX10 D K A := E
  have hl : lv_has ls 2 [(0, .ref h0), (1, .int p1)] := hl
  obtain ⟨H, hH⟩ : ∃ H, H = s.heap := ⟨_, rfl⟩
  obtain ⟨locs, hlo⟩ : ∃ L : List Loc, L = [] := ⟨_, rfl⟩
  rw [← hH, ← hlo] at G
  rw [← hH, ← hlo]
  have G : mG D A s H locs [(h0, .inr (10, [.ref tp, .ref tr, .ref rr, .ref dr, .ref rs, .int 0, .ref nr, .ref nw, .ref im, .int 0, .ref ac, .ref co, .ref al, .ref ta, .ref ma, .ref ga, .ref og])), (nw, .inr (2, [.ref pl, .ref sa, .ref no, .int (-1), .int 0])), (pl, .inr (8, [.int 0, .int 0, .int 0, .int 0, .ref j0, .ref j1, .ref j2, .ref j3, .ref j4, .ref j5]))] := G
  clear hH hlo
  refine lv_iload_n E.1 E.2.1 dX10_hasLure_0 rfl (lv_at hl 1 rfl) ?_
  refine lv_if_lt (tgt := 22) E.1 E.2.1 dX10_hasLure_1 (by decide) (fun c_1 => ?_) (fun c_1 => ?_)
  · skip
    refine lv_iconst (v := 0) E.1 E.2.1 dX10_hasLure_22 (by decide) ?_
    exact m_reti E G hr (by decide) (fun _ => 0, fun _ _ => 0, fun _ _ => none) rfl [] (by decide) rfl (by decide) (by decide) dX10_hasLure_23
  · skip
    refine lv_iload_n E.1 E.2.1 dX10_hasLure_4 rfl (lv_at hl 1 rfl) ?_
    refine lv_aload_n E.1 E.2.1 dX10_hasLure_5 rfl (lv_at hl 0 rfl) ?_
    refine m_get E G 0 (ci := 10) rfl 7 (C := RX10) (T := TX10) (N := 17) rfl (by decide) mw_fl_10_55 (v := .ref nw) rfl dX10_hasLure_6 ?_
    refine m_get E G 1 (ci := 2) rfl 0 (C := RX2) (T := TX2) (N := 5) rfl (by decide) mw_fl_10_114 (v := .ref pl) rfl dX10_hasLure_9 ?_
    refine m_get E G 2 (ci := 8) rfl 2 (C := RX8) (T := TX8) (N := 10) rfl (by decide) mw_fl_10_198 (v := .int 0) rfl dX10_hasLure_12 ?_
    refine lv_icmp_ge (tgt := 22) E.1 E.2.1 dX10_hasLure_15 (by decide) (fun _ => ?_) (fun h => absurd (Int32.not_lt.mp c_1) h)
    refine lv_iconst (v := 0) E.1 E.2.1 dX10_hasLure_22 (by decide) ?_
    exact m_reti E G hr (by decide) (fun _ => 0, fun _ _ => 0, fun _ _ => none) rfl [] (by decide) rfl (by decide) (by decide) dX10_hasLure_23
set_option maxHeartbeats 4000000 in
set_option maxRecDepth 100000 in
theorem k_hasWalker (l : Launch) (D : va_G) (K : Nat → ClassId) (h0 : Nat) (tp : Nat) (tr : Nat) (rr : Nat) (dr : Nat) (rs : Nat) (nr : Nat) (nw : Nat) (im : Nat) (ac : Nat) (co : Nat) (al : Nat) (ta : Nat) (ma : Nat) (ga : Nat) (og : Nat) (pl : Nat) (sa : Nat) (no : Nat) (j0 : Nat) (j1 : Nat) (j2 : Nat) (j3 : Nat) (j4 : Nat) (j5 : Nat) (p1 : Int32) : mI (S := mU) l yX10_hasWalker cX10_hasWalker 2 .boolean ({ frames := 0, cells := 0, slots := 0, locals := 0 }) D K [(h0, .inr (10, [.ref tp, .ref tr, .ref rr, .ref dr, .ref rs, .int 0, .ref nr, .ref nw, .ref im, .int 0, .ref ac, .ref co, .ref al, .ref ta, .ref ma, .ref ga, .ref og])), (nw, .inr (2, [.ref pl, .ref sa, .ref no, .int (-1), .int 0])), (pl, .inr (8, [.int 0, .int 0, .int 0, .int 0, .ref j0, .ref j1, .ref j2, .ref j3, .ref j4, .ref j5]))] [.ref h0, .int p1] (fun r u => r = 0) (fun u => []) := by
  refine m_enterI (by decide) (Nat.le_of_ble_eq_true rfl) ?_
  intro p e s m args below meth c A ls E hr G hl
  have E : mE p s m meth c cX10_hasWalker args 2 RX10 D K A := E
  have hl : lv_has ls 2 [(0, .ref h0), (1, .int p1)] := hl
  obtain ⟨H, hH⟩ : ∃ H, H = s.heap := ⟨_, rfl⟩
  obtain ⟨locs, hlo⟩ : ∃ L : List Loc, L = [] := ⟨_, rfl⟩
  rw [← hH, ← hlo] at G
  rw [← hH, ← hlo]
  have G : mG D A s H locs [(h0, .inr (10, [.ref tp, .ref tr, .ref rr, .ref dr, .ref rs, .int 0, .ref nr, .ref nw, .ref im, .int 0, .ref ac, .ref co, .ref al, .ref ta, .ref ma, .ref ga, .ref og])), (nw, .inr (2, [.ref pl, .ref sa, .ref no, .int (-1), .int 0])), (pl, .inr (8, [.int 0, .int 0, .int 0, .int 0, .ref j0, .ref j1, .ref j2, .ref j3, .ref j4, .ref j5]))] := G
  clear hH hlo
  refine lv_iload_n E.1 E.2.1 dX10_hasWalker_0 rfl (lv_at hl 1 rfl) ?_
  refine lv_if_lt (tgt := 22) E.1 E.2.1 dX10_hasWalker_1 (by decide) (fun c_1 => ?_) (fun c_1 => ?_)
  · skip
    refine lv_iconst (v := 0) E.1 E.2.1 dX10_hasWalker_22 (by decide) ?_
    exact m_reti E G hr (by decide) (fun _ => 0, fun _ _ => 0, fun _ _ => none) rfl [] (by decide) rfl (by decide) (by decide) dX10_hasWalker_23
  · skip
    refine lv_iload_n E.1 E.2.1 dX10_hasWalker_4 rfl (lv_at hl 1 rfl) ?_
    refine lv_aload_n E.1 E.2.1 dX10_hasWalker_5 rfl (lv_at hl 0 rfl) ?_
    refine m_get E G 0 (ci := 10) rfl 7 (C := RX10) (T := TX10) (N := 17) rfl (by decide) mw_fl_10_55 (v := .ref nw) rfl dX10_hasWalker_6 ?_
    refine m_get E G 1 (ci := 2) rfl 0 (C := RX2) (T := TX2) (N := 5) rfl (by decide) mw_fl_10_114 (v := .ref pl) rfl dX10_hasWalker_9 ?_
    refine m_get E G 2 (ci := 8) rfl 3 (C := RX8) (T := TX8) (N := 10) rfl (by decide) mw_fl_10_140 (v := .int 0) rfl dX10_hasWalker_12 ?_
    refine lv_icmp_ge (tgt := 22) E.1 E.2.1 dX10_hasWalker_15 (by decide) (fun _ => ?_) (fun h => absurd (Int32.not_lt.mp c_1) h)
    refine lv_iconst (v := 0) E.1 E.2.1 dX10_hasWalker_22 (by decide) ?_
    exact m_reti E G hr (by decide) (fun _ => 0, fun _ _ => 0, fun _ _ => none) rfl [] (by decide) rfl (by decide) (by decide) dX10_hasWalker_23
