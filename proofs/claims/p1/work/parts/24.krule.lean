theorem mw_code_X5_read : (Cond.code yX5_read cX5_read 4 none : Cond) ∈ cw := cw_of (List.mem_append_right _ (List.mem_append_right _ (List.mem_append_right _ (List.mem_append_left _ (List.mem_of_getElem? (i := 184) rfl))))) (by decide +kernel)
theorem mw_fl_10_26 : (Cond.fieldLink RX10 26 "LureTown" "ruleReader" "LLureTown$RuleReader;" : Cond) ∈ cw := cw_of (List.mem_append_right _ (List.mem_append_right _ (List.mem_append_left _ (List.mem_of_getElem? (i := 130) (by decide +kernel))))) (by decide +kernel)
theorem mw_fl_10_39 : (Cond.fieldLink RX10 39 "LureTown" "rules" "[LLureTown$Rule;" : Cond) ∈ cw := cw_of (List.mem_append_right _ (List.mem_append_right _ (List.mem_append_left _ (List.mem_of_getElem? (i := 132) (by decide +kernel))))) (by decide +kernel)
theorem mw_inst_X5_read : (Cond.instanceMethod yX5_read : Cond) ∈ cw := cw_of (List.mem_append_right _ (List.mem_append_right _ (List.mem_append_right _ (List.mem_append_left _ (List.mem_of_getElem? (i := 182) (by decide +kernel)))))) (by decide +kernel)
theorem mw_ml_10_143 : (Cond.methodLink RX10 143 yX5_read : Cond) ∈ cw := cw_of (List.mem_append_right _ (List.mem_append_right _ (List.mem_append_right _ (List.mem_append_left _ (List.mem_of_getElem? (i := 181) (by decide +kernel)))))) (by decide +kernel)
theorem mw_sel_X5_read : (Cond.selects RX5 yX5_read yX5_read : Cond) ∈ cw := cw_of (List.mem_append_right _ (List.mem_append_right _ (List.mem_append_right _ (List.mem_append_left _ (List.mem_of_getElem? (i := 183) (by decide +kernel)))))) (by decide +kernel)
theorem dX10_rule_0 : decode cX10_rule 0 = .ok (.aload_n 0, 1) := by decide +kernel
theorem dX10_rule_1 : decode cX10_rule 1 = .ok (.getfield 43, 3) := by decide +kernel
theorem dX10_rule_4 : decode cX10_rule 4 = .ok (.bipush 6, 2) := by decide +kernel
theorem dX10_rule_6 : decode cX10_rule 6 = .ok (.if_icmp .lt 5, 3) := by decide +kernel
theorem dX10_rule_11 : decode cX10_rule 11 = .ok (.aload_n 0, 1) := by decide +kernel
theorem dX10_rule_12 : decode cX10_rule 12 = .ok (.getfield 26, 3) := by decide +kernel
theorem dX10_rule_15 : decode cX10_rule 15 = .ok (.aload_n 0, 1) := by decide +kernel
theorem dX10_rule_16 : decode cX10_rule 16 = .ok (.getfield 10, 3) := by decide +kernel
theorem dX10_rule_19 : decode cX10_rule 19 = .ok (.aload_n 0, 1) := by decide +kernel
theorem dX10_rule_20 : decode cX10_rule 20 = .ok (.getfield 39, 3) := by decide +kernel
theorem dX10_rule_23 : decode cX10_rule 23 = .ok (.aload_n 0, 1) := by decide +kernel
theorem dX10_rule_24 : decode cX10_rule 24 = .ok (.getfield 43, 3) := by decide +kernel
theorem dX10_rule_27 : decode cX10_rule 27 = .ok (.aaload, 1) := by decide +kernel
theorem dX10_rule_28 : decode cX10_rule 28 = .ok (.invokevirtual 143, 3) := by decide +kernel
theorem dX10_rule_31 : decode cX10_rule 31 = .ok (.aload_n 0, 1) := by decide +kernel
theorem dX10_rule_32 : decode cX10_rule 32 = .ok (.getfield 10, 3) := by decide +kernel
theorem dX10_rule_35 : decode cX10_rule 35 = .ok (.iconst 0, 1) := by decide +kernel
theorem dX10_rule_36 : decode cX10_rule 36 = .ok (.putfield 100, 3) := by decide +kernel
theorem dX10_rule_39 : decode cX10_rule 39 = .ok (.aload_n 0, 1) := by decide +kernel
theorem dX10_rule_40 : decode cX10_rule 40 = .ok (.getfield 10, 3) := by decide +kernel
theorem dX10_rule_43 : decode cX10_rule 43 = .ok (.getfield 111, 3) := by decide +kernel
theorem dX10_rule_46 : decode cX10_rule 46 = .ok (.ifCond .eq 14, 3) := by decide +kernel
theorem dX10_rule_49 : decode cX10_rule 49 = .ok (.bipush (-2), 2) := by decide +kernel
theorem dX10_rule_51 : decode cX10_rule 51 = .ok (.aload_n 0, 1) := by decide +kernel
theorem dX10_rule_52 : decode cX10_rule 52 = .ok (.getfield 10, 3) := by decide +kernel
theorem dX10_rule_55 : decode cX10_rule 55 = .ok (.getfield 111, 3) := by decide +kernel
theorem dX10_rule_58 : decode cX10_rule 58 = .ok (.isub, 1) := by decide +kernel
theorem dX10_rule_59 : decode cX10_rule 59 = .ok (.ireturn, 1) := by decide +kernel
theorem hd_X5_read : yX5_read.cls ≠ "java/lang/invoke/MethodHandle" ∧ yX5_read.cls ≠ "java/lang/invoke/VarHandle" ∧ (parseMethodDescriptor yX5_read.desc).map (fun d => d.parameters.length) = some 2 := ⟨by decide +kernel, by decide +kernel, by decide +kernel⟩
set_option maxHeartbeats 4000000 in
set_option maxRecDepth 100000 in
theorem k_rule (l : Launch) (D : va_G) (K : Nat → ClassId) (h0 : Nat) (tp : Nat) (tr : Nat) (rr : Nat) (dr : Nat) (rs : Nat) (nr : Nat) (nw : Nat) (im : Nat) (ac : Nat) (co : Nat) (al : Nat) (ta : Nat) (ma : Nat) (ga : Nat) (og : Nat) (r1 : Nat) (r0 : Nat) (r2 : Nat) (bt : Nat) (fr : Nat → Option Nat) (ru : Nat) (c0 : Nat) (c1 : Nat) (c2 : Nat) (c3 : Nat) (hf : fr 0 = some ru) : mI (S := mU) l yX10_rule cX10_rule 1 .int ({ frames := 4, cells := 0, slots := 0, locals := 84 }) D K [(h0, .inr (10, [.ref tp, .ref tr, .ref rr, .ref dr, .ref rs, .int 0, .ref nr, .ref nw, .ref im, .int 0, .ref ac, .ref co, .ref al, .ref ta, .ref ma, .ref ga, .ref og])), (rr, .inr (5, [.ref r0, .ref r1, .int 0, .int 0, .int 0, .int 0, .int 0, .int 0, .ref r2])), (tp, .inr (7, [.ref bt, .int 0, .int 0, .int 40, .int 0, .int 0, .int 0])), (rs, .inl (K 4, 6, .inr (.inr (.inr (.inr fr))))), (ru, .inr (4, [.int 0, .ref c0, .int 0, .ref c1, .ref c2, .ref c3])), (c2, .inl (K 0, 13, .inl (fun _ => 0)))] [.ref h0] (fun r u => r = (-3)) (fun u => []) := by
  refine m_enterI (by decide) (Nat.le_of_ble_eq_true rfl) ?_
  intro p e s m args below meth c A ls E hr G hl
  have E : mE p s m meth c cX10_rule args 1 RX10 D K A := E
  have hl : lv_has ls 1 [(0, .ref h0)] := hl
  obtain ⟨H, hH⟩ : ∃ H, H = s.heap := ⟨_, rfl⟩
  obtain ⟨locs, hlo⟩ : ∃ L : List Loc, L = [] := ⟨_, rfl⟩
  rw [← hH, ← hlo] at G
  rw [← hH, ← hlo]
  have G : mG D A s H locs [(h0, .inr (10, [.ref tp, .ref tr, .ref rr, .ref dr, .ref rs, .int 0, .ref nr, .ref nw, .ref im, .int 0, .ref ac, .ref co, .ref al, .ref ta, .ref ma, .ref ga, .ref og])), (rr, .inr (5, [.ref r0, .ref r1, .int 0, .int 0, .int 0, .int 0, .int 0, .int 0, .ref r2])), (tp, .inr (7, [.ref bt, .int 0, .int 0, .int 40, .int 0, .int 0, .int 0])), (rs, .inl (K 4, 6, .inr (.inr (.inr (.inr fr))))), (ru, .inr (4, [.int 0, .ref c0, .int 0, .ref c1, .ref c2, .ref c3])), (c2, .inl (K 0, 13, .inl (fun _ => 0)))] := G
  clear hH hlo
  refine lv_aload_n E.1 E.2.1 dX10_rule_0 rfl (lv_at hl 0 rfl) ?_
  refine m_get E G 0 (ci := 10) rfl 5 (C := RX10) (T := TX10) (N := 17) rfl (by decide) mw_fl_10_43 (v := .int 0) rfl dX10_rule_1 ?_
  refine lv_bipush (v := 6) E.1 E.2.1 dX10_rule_4 (by decide) ?_
  refine lv_icmp_lt (tgt := 11) E.1 E.2.1 dX10_rule_6 (by decide) (fun _ => ?_) (fun h => absurd (by decide) h)
  refine lv_aload_n E.1 E.2.1 dX10_rule_11 rfl (lv_at hl 0 rfl) ?_
  refine m_get E G 0 (ci := 10) rfl 2 (C := RX10) (T := TX10) (N := 17) rfl (by decide) mw_fl_10_26 (v := .ref rr) rfl dX10_rule_12 ?_
  refine lv_aload_n E.1 E.2.1 dX10_rule_15 rfl (lv_at hl 0 rfl) ?_
  refine m_get E G 0 (ci := 10) rfl 0 (C := RX10) (T := TX10) (N := 17) rfl (by decide) mw_fl_10_10 (v := .ref tp) rfl dX10_rule_16 ?_
  refine lv_aload_n E.1 E.2.1 dX10_rule_19 rfl (lv_at hl 0 rfl) ?_
  refine m_get E G 0 (ci := 10) rfl 4 (C := RX10) (T := TX10) (N := 17) rfl (by decide) mw_fl_10_39 (v := .ref rs) rfl dX10_rule_20 ?_
  refine lv_aload_n E.1 E.2.1 dX10_rule_23 rfl (lv_at hl 0 rfl) ?_
  refine m_get E G 0 (ci := 10) rfl 5 (C := RX10) (T := TX10) (N := 17) rfl (by decide) mw_fl_10_43 (v := .int 0) rfl dX10_rule_24 ?_
  refine m_aald E G 3 4 rfl rfl (by unfold vp_in; decide) (v := .ref ru) (by rw [show ((0 : Int32).toNatClampNeg) = 0 from rfl, hf]; rfl) dX10_rule_27 ?_
  refine m_vv E G hl (k_rread l D K rr r1 r0 r2 tp bt ru c0 c1 c2 c3) (wr := [(h0, .inr (10, [.ref tp, .ref tr, .ref rr, .ref dr, .ref rs, .int 0, .ref nr, .ref nw, .ref im, .int 0, .ref ac, .ref co, .ref al, .ref ta, .ref ma, .ref ga, .ref og])), (rs, .inl (K 4, 6, .inr (.inr (.inr (.inr fr)))))]) [1, 2, 4, 5] [0, 3] rfl rfl (by decide) (by decide) (by decide) 0 (ci := 5) rfl rfl rfl 2 rfl mw_code_X5_read mw_ini_5 mw_ml_10_143 mw_inst_X5_read mw_sel_X5_read hd_X5_read ⟨by decide, by decide⟩ rfl (Nat.le_of_ble_eq_true rfl) ⟨by decide, by decide⟩ dX10_rule_28 (fun u_1 H locs hp G => ?_)
  have G : mG D A s H locs [(h0, .inr (10, [.ref tp, .ref tr, .ref rr, .ref dr, .ref rs, .int 0, .ref nr, .ref nw, .ref im, .int 0, .ref ac, .ref co, .ref al, .ref ta, .ref ma, .ref ga, .ref og])), (rs, .inl (K 4, 6, .inr (.inr (.inr (.inr fr))))), (tp, .inr (7, [.ref bt, .int 0, .int 1, .int 40, .int 0, .int 0, .int 0]))] := G
  refine lv_aload_n E.1 E.2.1 dX10_rule_31 rfl (lv_at hl 0 rfl) ?_
  refine m_get E G 0 (ci := 10) rfl 0 (C := RX10) (T := TX10) (N := 17) rfl (by decide) mw_fl_10_10 (v := .ref tp) rfl dX10_rule_32 ?_
  refine lv_iconst (v := 0) E.1 E.2.1 dX10_rule_35 (by decide) ?_
  refine m_put E G 2 (ci := 7) rfl 1 (C := RX7) (T := TX7) (N := 7) rfl (by decide) mw_fl_10_100 rfl rfl rfl (Nat.le_of_ble_eq_true rfl) dX10_rule_36 (fun H locs G => ?_)
  have G : mG D A s H locs [(h0, .inr (10, [.ref tp, .ref tr, .ref rr, .ref dr, .ref rs, .int 0, .ref nr, .ref nw, .ref im, .int 0, .ref ac, .ref co, .ref al, .ref ta, .ref ma, .ref ga, .ref og])), (rs, .inl (K 4, 6, .inr (.inr (.inr (.inr fr))))), (tp, .inr (7, [.ref bt, .int 0, .int 1, .int 40, .int 0, .int 0, .int 0]))] := G
  refine lv_aload_n E.1 E.2.1 dX10_rule_39 rfl (lv_at hl 0 rfl) ?_
  refine m_get E G 0 (ci := 10) rfl 0 (C := RX10) (T := TX10) (N := 17) rfl (by decide) mw_fl_10_10 (v := .ref tp) rfl dX10_rule_40 ?_
  refine m_get E G 2 (ci := 7) rfl 2 (C := RX7) (T := TX7) (N := 7) rfl (by decide) mw_fl_10_111 (v := .int 1) rfl dX10_rule_43 ?_
  refine lv_if_eq (tgt := 60) E.1 E.2.1 dX10_rule_46 (by decide) (fun h => absurd h (by decide)) (fun _ => ?_)
  refine lv_bipush (v := (-2)) E.1 E.2.1 dX10_rule_49 (by decide) ?_
  refine lv_aload_n E.1 E.2.1 dX10_rule_51 rfl (lv_at hl 0 rfl) ?_
  refine m_get E G 0 (ci := 10) rfl 0 (C := RX10) (T := TX10) (N := 17) rfl (by decide) mw_fl_10_10 (v := .ref tp) rfl dX10_rule_52 ?_
  refine m_get E G 2 (ci := 7) rfl 2 (C := RX7) (T := TX7) (N := 7) rfl (by decide) mw_fl_10_111 (v := .int 1) rfl dX10_rule_55 ?_
  refine lv_isub E.1 E.2.1 dX10_rule_58 ?_
  refine m_ci (-3) (by decide) ?_
  exact m_reti E G hr rfl (fun _ => 0, fun _ _ => 0, fun _ _ => none) rfl [] (by decide) rfl (by decide) (by decide) dX10_rule_59
