theorem mw_code_X9_read : (Cond.code yX9_read cX9_read 5 none : Cond) ∈ cw := cw_of (List.mem_append_right _ (List.mem_append_right _ (List.mem_append_left _ (List.mem_of_getElem? (i := 199) rfl)))) (by decide +kernel)
theorem mw_fl_10_111 : (Cond.fieldLink RX10 111 "LureTown$Tape" "fault" "I" : Cond) ∈ cw := cw_of (List.mem_append_right _ (List.mem_append_left _ (List.mem_of_getElem? (i := 41) (by decide +kernel)))) (by decide +kernel)
theorem mw_fl_10_19 : (Cond.fieldLink RX10 19 "LureTown" "townReader" "LLureTown$TownReader;" : Cond) ∈ cw := cw_of (List.mem_append_right _ (List.mem_append_right _ (List.mem_append_left _ (List.mem_of_getElem? (i := 129) (by decide +kernel))))) (by decide +kernel)
theorem mw_fl_10_33 : (Cond.fieldLink RX10 33 "LureTown" "draft" "LLureTown$Town;" : Cond) ∈ cw := cw_of (List.mem_append_right _ (List.mem_append_right _ (List.mem_append_left _ (List.mem_of_getElem? (i := 131) (by decide +kernel))))) (by decide +kernel)
theorem mw_inst_X9_read : (Cond.instanceMethod yX9_read : Cond) ∈ cw := cw_of (List.mem_append_right _ (List.mem_append_right _ (List.mem_append_left _ (List.mem_of_getElem? (i := 197) (by decide +kernel))))) (by decide +kernel)
theorem mw_ml_10_107 : (Cond.methodLink RX10 107 yX9_read : Cond) ∈ cw := cw_of (List.mem_append_right _ (List.mem_append_right _ (List.mem_append_left _ (List.mem_of_getElem? (i := 196) (by decide +kernel))))) (by decide +kernel)
theorem mw_sel_X9_read : (Cond.selects RX9 yX9_read yX9_read : Cond) ∈ cw := cw_of (List.mem_append_right _ (List.mem_append_right _ (List.mem_append_left _ (List.mem_of_getElem? (i := 198) (by decide +kernel))))) (by decide +kernel)
theorem dX10_town_0 : decode cX10_town 0 = .ok (.aload_n 0, 1) := by decide +kernel
theorem dX10_town_1 : decode cX10_town 1 = .ok (.getfield 19, 3) := by decide +kernel
theorem dX10_town_4 : decode cX10_town 4 = .ok (.aload_n 0, 1) := by decide +kernel
theorem dX10_town_5 : decode cX10_town 5 = .ok (.getfield 10, 3) := by decide +kernel
theorem dX10_town_8 : decode cX10_town 8 = .ok (.aload_n 0, 1) := by decide +kernel
theorem dX10_town_9 : decode cX10_town 9 = .ok (.getfield 33, 3) := by decide +kernel
theorem dX10_town_12 : decode cX10_town 12 = .ok (.invokevirtual 107, 3) := by decide +kernel
theorem dX10_town_15 : decode cX10_town 15 = .ok (.aload_n 0, 1) := by decide +kernel
theorem dX10_town_16 : decode cX10_town 16 = .ok (.getfield 10, 3) := by decide +kernel
theorem dX10_town_19 : decode cX10_town 19 = .ok (.getfield 111, 3) := by decide +kernel
theorem dX10_town_22 : decode cX10_town 22 = .ok (.ifCond .eq 14, 3) := by decide +kernel
theorem dX10_town_25 : decode cX10_town 25 = .ok (.bipush (-2), 2) := by decide +kernel
theorem dX10_town_27 : decode cX10_town 27 = .ok (.aload_n 0, 1) := by decide +kernel
theorem dX10_town_28 : decode cX10_town 28 = .ok (.getfield 10, 3) := by decide +kernel
theorem dX10_town_31 : decode cX10_town 31 = .ok (.getfield 111, 3) := by decide +kernel
theorem dX10_town_34 : decode cX10_town 34 = .ok (.isub, 1) := by decide +kernel
theorem dX10_town_35 : decode cX10_town 35 = .ok (.ireturn, 1) := by decide +kernel
theorem hd_X9_read : yX9_read.cls ≠ "java/lang/invoke/MethodHandle" ∧ yX9_read.cls ≠ "java/lang/invoke/VarHandle" ∧ (parseMethodDescriptor yX9_read.desc).map (fun d => d.parameters.length) = some 2 := ⟨by decide +kernel, by decide +kernel, by decide +kernel⟩
set_option maxHeartbeats 4000000 in
set_option maxRecDepth 100000 in
theorem k_town (l : Launch) (D : va_G) (K : Nat → ClassId) (h0 : Nat) (tp : Nat) (tr : Nat) (rr : Nat) (dr : Nat) (rs : Nat) (nr : Nat) (nw : Nat) (im : Nat) (ac : Nat) (co : Nat) (al : Nat) (ta : Nat) (ma : Nat) (ga : Nat) (og : Nat) (t0 : Nat) (t1 : Nat) (t2 : Nat) (bt : Nat) (j0 : Nat) (j1 : Nat) (j2 : Nat) (j3 : Nat) (j4 : Nat) (j5 : Nat) (s0 : Nat) (s1 : Nat) (s2 : Nat) (s3 : Nat) (s4 : Nat) (s5 : Nat) : mI (S := mU) l yX10_town cX10_town 1 .int ({ frames := 3, cells := 0, slots := 0, locals := 69 }) D K [(h0, .inr (10, [.ref tp, .ref tr, .ref rr, .ref dr, .ref rs, .int 0, .ref nr, .ref nw, .ref im, .int 0, .ref ac, .ref co, .ref al, .ref ta, .ref ma, .ref ga, .ref og])), (tr, .inr (9, [.ref t0, .ref t1, .ref t2])), (tp, .inr (7, [.ref bt, .int 0, .int 0, .int 40, .int 0, .int 0, .int 0])), (dr, .inr (8, [.int 0, .int 0, .int 0, .int 0, .ref j0, .ref j1, .ref j2, .ref j3, .ref j4, .ref j5])), (j0, .inl (K 0, 8, .inl (fun _ => 0))), (j4, .inr (6, [.ref s0, .ref s1, .ref s2, .ref s3, .ref s4, .ref s5, .int 0, .int 0]))] [.ref h0] (fun r u => r = (-3)) (fun u => []) := by
  refine m_enterI (by decide) (Nat.le_of_ble_eq_true rfl) ?_
  intro p e s m args below meth c A ls E hr G hl
  have E : mE p s m meth c cX10_town args 1 RX10 D K A := E
  have hl : lv_has ls 1 [(0, .ref h0)] := hl
  obtain ⟨H, hH⟩ : ∃ H, H = s.heap := ⟨_, rfl⟩
  obtain ⟨locs, hlo⟩ : ∃ L : List Loc, L = [] := ⟨_, rfl⟩
  rw [← hH, ← hlo] at G
  rw [← hH, ← hlo]
  have G : mG D A s H locs [(h0, .inr (10, [.ref tp, .ref tr, .ref rr, .ref dr, .ref rs, .int 0, .ref nr, .ref nw, .ref im, .int 0, .ref ac, .ref co, .ref al, .ref ta, .ref ma, .ref ga, .ref og])), (tr, .inr (9, [.ref t0, .ref t1, .ref t2])), (tp, .inr (7, [.ref bt, .int 0, .int 0, .int 40, .int 0, .int 0, .int 0])), (dr, .inr (8, [.int 0, .int 0, .int 0, .int 0, .ref j0, .ref j1, .ref j2, .ref j3, .ref j4, .ref j5])), (j0, .inl (K 0, 8, .inl (fun _ => 0))), (j4, .inr (6, [.ref s0, .ref s1, .ref s2, .ref s3, .ref s4, .ref s5, .int 0, .int 0]))] := G
  clear hH hlo
  refine lv_aload_n E.1 E.2.1 dX10_town_0 rfl (lv_at hl 0 rfl) ?_
  refine m_get E G 0 (ci := 10) rfl 1 (C := RX10) (T := TX10) (N := 17) rfl (by decide) mw_fl_10_19 (v := .ref tr) rfl dX10_town_1 ?_
  refine lv_aload_n E.1 E.2.1 dX10_town_4 rfl (lv_at hl 0 rfl) ?_
  refine m_get E G 0 (ci := 10) rfl 0 (C := RX10) (T := TX10) (N := 17) rfl (by decide) mw_fl_10_10 (v := .ref tp) rfl dX10_town_5 ?_
  refine lv_aload_n E.1 E.2.1 dX10_town_8 rfl (lv_at hl 0 rfl) ?_
  refine m_get E G 0 (ci := 10) rfl 3 (C := RX10) (T := TX10) (N := 17) rfl (by decide) mw_fl_10_33 (v := .ref dr) rfl dX10_town_9 ?_
  refine m_vv E G hl (k_tread l D K tr t0 t1 t2 dr tp bt j0 j1 j2 j3 j4 j5 s0 s1 s2 s3 s4 s5) (wr := [(h0, .inr (10, [.ref tp, .ref tr, .ref rr, .ref dr, .ref rs, .int 0, .ref nr, .ref nw, .ref im, .int 0, .ref ac, .ref co, .ref al, .ref ta, .ref ma, .ref ga, .ref og]))]) [1, 2, 3, 4, 5] [0] rfl rfl (by decide) (by decide) (by decide) 0 (ci := 9) rfl rfl rfl 2 rfl mw_code_X9_read mw_ini_9 mw_ml_10_107 mw_inst_X9_read mw_sel_X9_read hd_X9_read ⟨by decide, by decide⟩ rfl (Nat.le_of_ble_eq_true rfl) ⟨by decide, by decide⟩ dX10_town_12 (fun u_1 H locs hp G => ?_)
  have G : mG D A s H locs [(h0, .inr (10, [.ref tp, .ref tr, .ref rr, .ref dr, .ref rs, .int 0, .ref nr, .ref nw, .ref im, .int 0, .ref ac, .ref co, .ref al, .ref ta, .ref ma, .ref ga, .ref og])), (tp, .inr (7, [.ref bt, .int 0, .int 1, .int 40, .int 0, .int 0, .int 0]))] := G
  refine lv_aload_n E.1 E.2.1 dX10_town_15 rfl (lv_at hl 0 rfl) ?_
  refine m_get E G 0 (ci := 10) rfl 0 (C := RX10) (T := TX10) (N := 17) rfl (by decide) mw_fl_10_10 (v := .ref tp) rfl dX10_town_16 ?_
  refine m_get E G 1 (ci := 7) rfl 2 (C := RX7) (T := TX7) (N := 7) rfl (by decide) mw_fl_10_111 (v := .int 1) rfl dX10_town_19 ?_
  refine lv_if_eq (tgt := 36) E.1 E.2.1 dX10_town_22 (by decide) (fun h => absurd h (by decide)) (fun _ => ?_)
  refine lv_bipush (v := (-2)) E.1 E.2.1 dX10_town_25 (by decide) ?_
  refine lv_aload_n E.1 E.2.1 dX10_town_27 rfl (lv_at hl 0 rfl) ?_
  refine m_get E G 0 (ci := 10) rfl 0 (C := RX10) (T := TX10) (N := 17) rfl (by decide) mw_fl_10_10 (v := .ref tp) rfl dX10_town_28 ?_
  refine m_get E G 1 (ci := 7) rfl 2 (C := RX7) (T := TX7) (N := 7) rfl (by decide) mw_fl_10_111 (v := .int 1) rfl dX10_town_31 ?_
  refine lv_isub E.1 E.2.1 dX10_town_34 ?_
  refine m_ci (-3) (by decide) ?_
  exact m_reti E G hr rfl (fun _ => 0, fun _ _ => 0, fun _ _ => none) rfl [] (by decide) rfl (by decide) (by decide) dX10_town_35
