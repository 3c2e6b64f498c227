theorem mw_code_X7_append : (Cond.code yX7_append cX7_append 3 none : Cond) ∈ cw := cw_of (List.mem_append_right _ (List.mem_append_right _ (List.mem_append_left _ (List.mem_of_getElem? (i := 187) rfl)))) (by decide +kernel)
theorem mw_inst_X7_append : (Cond.instanceMethod yX7_append : Cond) ∈ cw := cw_of (List.mem_append_right _ (List.mem_append_right _ (List.mem_append_left _ (List.mem_of_getElem? (i := 185) (by decide +kernel))))) (by decide +kernel)
theorem mw_ml_10_103 : (Cond.methodLink RX10 103 yX7_append : Cond) ∈ cw := cw_of (List.mem_append_right _ (List.mem_append_right _ (List.mem_append_left _ (List.mem_of_getElem? (i := 184) (by decide +kernel))))) (by decide +kernel)
theorem mw_sel_X7_append : (Cond.selects RX7 yX7_append yX7_append : Cond) ∈ cw := cw_of (List.mem_append_right _ (List.mem_append_right _ (List.mem_append_left _ (List.mem_of_getElem? (i := 186) (by decide +kernel))))) (by decide +kernel)
theorem dX10_feed_0 : decode cX10_feed 0 = .ok (.aload_n 0, 1) := by decide +kernel
theorem dX10_feed_1 : decode cX10_feed 1 = .ok (.getfield 10, 3) := by decide +kernel
theorem dX10_feed_4 : decode cX10_feed 4 = .ok (.getfield 100, 3) := by decide +kernel
theorem dX10_feed_7 : decode cX10_feed 7 = .ok (.bipush 20, 2) := by decide +kernel
theorem dX10_feed_9 : decode cX10_feed 9 = .ok (.iadd, 1) := by decide +kernel
theorem dX10_feed_10 : decode cX10_feed 10 = .ok (.sipush 400, 3) := by decide +kernel
theorem dX10_feed_13 : decode cX10_feed 13 = .ok (.if_icmp .le 5, 3) := by decide +kernel
theorem dX10_feed_18 : decode cX10_feed 18 = .ok (.aload_n 0, 1) := by decide +kernel
theorem dX10_feed_19 : decode cX10_feed 19 = .ok (.getfield 10, 3) := by decide +kernel
theorem dX10_feed_22 : decode cX10_feed 22 = .ok (.iload_n 1, 1) := by decide +kernel
theorem dX10_feed_23 : decode cX10_feed 23 = .ok (.invokevirtual 103, 3) := by decide +kernel
theorem dX10_feed_26 : decode cX10_feed 26 = .ok (.aload_n 0, 1) := by decide +kernel
theorem dX10_feed_27 : decode cX10_feed 27 = .ok (.getfield 10, 3) := by decide +kernel
theorem dX10_feed_30 : decode cX10_feed 30 = .ok (.iload_n 2, 1) := by decide +kernel
theorem dX10_feed_31 : decode cX10_feed 31 = .ok (.invokevirtual 103, 3) := by decide +kernel
theorem dX10_feed_34 : decode cX10_feed 34 = .ok (.aload_n 0, 1) := by decide +kernel
theorem dX10_feed_35 : decode cX10_feed 35 = .ok (.getfield 10, 3) := by decide +kernel
theorem dX10_feed_38 : decode cX10_feed 38 = .ok (.iload_n 3, 1) := by decide +kernel
theorem dX10_feed_39 : decode cX10_feed 39 = .ok (.invokevirtual 103, 3) := by decide +kernel
theorem dX10_feed_42 : decode cX10_feed 42 = .ok (.aload_n 0, 1) := by decide +kernel
theorem dX10_feed_43 : decode cX10_feed 43 = .ok (.getfield 10, 3) := by decide +kernel
theorem dX10_feed_46 : decode cX10_feed 46 = .ok (.iload 4, 2) := by decide +kernel
theorem dX10_feed_48 : decode cX10_feed 48 = .ok (.invokevirtual 103, 3) := by decide +kernel
theorem dX10_feed_51 : decode cX10_feed 51 = .ok (.aload_n 0, 1) := by decide +kernel
theorem dX10_feed_52 : decode cX10_feed 52 = .ok (.getfield 10, 3) := by decide +kernel
theorem dX10_feed_55 : decode cX10_feed 55 = .ok (.iload 5, 2) := by decide +kernel
theorem dX10_feed_57 : decode cX10_feed 57 = .ok (.invokevirtual 103, 3) := by decide +kernel
theorem dX10_feed_60 : decode cX10_feed 60 = .ok (.aload_n 0, 1) := by decide +kernel
theorem dX10_feed_61 : decode cX10_feed 61 = .ok (.getfield 10, 3) := by decide +kernel
theorem dX10_feed_64 : decode cX10_feed 64 = .ok (.getfield 100, 3) := by decide +kernel
theorem dX10_feed_67 : decode cX10_feed 67 = .ok (.ireturn, 1) := by decide +kernel
theorem hd_X7_append : yX7_append.cls ≠ "java/lang/invoke/MethodHandle" ∧ yX7_append.cls ≠ "java/lang/invoke/VarHandle" ∧ (parseMethodDescriptor yX7_append.desc).map (fun d => d.parameters.length) = some 1 := ⟨by decide +kernel, by decide +kernel, by decide +kernel⟩
set_option maxHeartbeats 4000000 in
set_option maxRecDepth 100000 in
theorem k_feed (l : Launch) (D : va_G) (K : Nat → ClassId) (h0 : Nat) (tp : Nat) (tr : Nat) (rr : Nat) (dr : Nat) (rs : Nat) (nr : Nat) (nw : Nat) (im : Nat) (ac : Nat) (co : Nat) (al : Nat) (ta : Nat) (ma : Nat) (ga : Nat) (og : Nat) (bt : Nat) (p1 : Int32) (p2 : Int32) (p3 : Int32) (p4 : Int32) (p5 : Int32) : mI (S := mU) l yX10_feed cX10_feed 6 .int ({ frames := 1, cells := 0, slots := 0, locals := 22 }) D K [(h0, .inr (10, [.ref tp, .ref tr, .ref rr, .ref dr, .ref rs, .int 0, .ref nr, .ref nw, .ref im, .int 0, .ref ac, .ref co, .ref al, .ref ta, .ref ma, .ref ga, .ref og])), (tp, .inr (7, [.ref bt, .int 0, .int 0, .int 40, .int 0, .int 0, .int 0])), (bt, .inl (K 1, 400, .inl (fun _ => 0)))] [.ref h0, .int p1, .int p2, .int p3, .int p4, .int p5] (fun r u => r = 20) (fun u => []) := by
  refine m_enterI (by decide) (Nat.le_of_ble_eq_true rfl) ?_
  intro p e s m args below meth c A ls E hr G hl
  have E : mE p s m meth c cX10_feed args 6 RX10 D K A := E
  have hl : lv_has ls 6 [(0, .ref h0), (1, .int p1), (2, .int p2), (3, .int p3), (4, .int p4), (5, .int p5)] := hl
  obtain ⟨H, hH⟩ : ∃ H, H = s.heap := ⟨_, rfl⟩
  obtain ⟨locs, hlo⟩ : ∃ L : List Loc, L = [] := ⟨_, rfl⟩
  rw [← hH, ← hlo] at G
  rw [← hH, ← hlo]
  have G : mG D A s H locs [(h0, .inr (10, [.ref tp, .ref tr, .ref rr, .ref dr, .ref rs, .int 0, .ref nr, .ref nw, .ref im, .int 0, .ref ac, .ref co, .ref al, .ref ta, .ref ma, .ref ga, .ref og])), (tp, .inr (7, [.ref bt, .int 0, .int 0, .int 40, .int 0, .int 0, .int 0])), (bt, .inl (K 1, 400, .inl (fun _ => 0)))] := G
  clear hH hlo
  refine lv_aload_n E.1 E.2.1 dX10_feed_0 rfl (lv_at hl 0 rfl) ?_
  refine m_get E G 0 (ci := 10) rfl 0 (C := RX10) (T := TX10) (N := 17) rfl (by decide) mw_fl_10_10 (v := .ref tp) rfl dX10_feed_1 ?_
  refine m_get E G 1 (ci := 7) rfl 1 (C := RX7) (T := TX7) (N := 7) rfl (by decide) mw_fl_10_100 (v := .int 0) rfl dX10_feed_4 ?_
  refine lv_bipush (v := 20) E.1 E.2.1 dX10_feed_7 (by decide) ?_
  refine lv_iadd E.1 E.2.1 dX10_feed_9 ?_
  refine m_ci 20 (by decide) ?_
  refine lv_sipush (v := 400) E.1 E.2.1 dX10_feed_10 (by decide) ?_
  refine lv_icmp_le (tgt := 18) E.1 E.2.1 dX10_feed_13 (by decide) (fun _ => ?_) (fun h => absurd (by decide) h)
  refine lv_aload_n E.1 E.2.1 dX10_feed_18 rfl (lv_at hl 0 rfl) ?_
  refine m_get E G 0 (ci := 10) rfl 0 (C := RX10) (T := TX10) (N := 17) rfl (by decide) mw_fl_10_10 (v := .ref tp) rfl dX10_feed_19 ?_
  refine lv_iload_n E.1 E.2.1 dX10_feed_22 rfl (lv_at hl 1 rfl) ?_
  refine m_vv E G hl (k_append_0 l D K tp bt (fun _ => 0) p1) (wr := [(h0, .inr (10, [.ref tp, .ref tr, .ref rr, .ref dr, .ref rs, .int 0, .ref nr, .ref nw, .ref im, .int 0, .ref ac, .ref co, .ref al, .ref ta, .ref ma, .ref ga, .ref og]))]) [1, 2] [0] rfl rfl (by decide) (by decide) (by decide) 0 (ci := 7) rfl rfl rfl 1 rfl mw_code_X7_append mw_ini_7 mw_ml_10_103 mw_inst_X7_append mw_sel_X7_append hd_X7_append ⟨by decide, by decide⟩ rfl (Nat.le_of_ble_eq_true rfl) ⟨by decide, by decide⟩ dX10_feed_23 (fun u_1 H locs hp G => ?_)
  have G : mG D A s H locs [(h0, .inr (10, [.ref tp, .ref tr, .ref rr, .ref dr, .ref rs, .int 0, .ref nr, .ref nw, .ref im, .int 0, .ref ac, .ref co, .ref al, .ref ta, .ref ma, .ref ga, .ref og])), (tp, .inr (7, [.ref bt, .int 4, .int 0, .int 40, .int 0, .int 0, .int 0])), (bt, .inl (K 1, 400, .inl (u_1.2.1 0)))] := G
  refine lv_aload_n E.1 E.2.1 dX10_feed_26 rfl (lv_at hl 0 rfl) ?_
  refine m_get E G 0 (ci := 10) rfl 0 (C := RX10) (T := TX10) (N := 17) rfl (by decide) mw_fl_10_10 (v := .ref tp) rfl dX10_feed_27 ?_
  refine lv_iload_n E.1 E.2.1 dX10_feed_30 rfl (lv_at hl 2 rfl) ?_
  refine m_vv E G hl (k_append_4 l D K tp bt (u_1.2.1 0) p2) (wr := [(h0, .inr (10, [.ref tp, .ref tr, .ref rr, .ref dr, .ref rs, .int 0, .ref nr, .ref nw, .ref im, .int 0, .ref ac, .ref co, .ref al, .ref ta, .ref ma, .ref ga, .ref og]))]) [1, 2] [0] rfl rfl (by decide) (by decide) (by decide) 0 (ci := 7) rfl rfl rfl 1 rfl mw_code_X7_append mw_ini_7 mw_ml_10_103 mw_inst_X7_append mw_sel_X7_append hd_X7_append ⟨by decide, by decide⟩ rfl (Nat.le_of_ble_eq_true rfl) ⟨by decide, by decide⟩ dX10_feed_31 (fun u_3 H locs hp G => ?_)
  have G : mG D A s H locs [(h0, .inr (10, [.ref tp, .ref tr, .ref rr, .ref dr, .ref rs, .int 0, .ref nr, .ref nw, .ref im, .int 0, .ref ac, .ref co, .ref al, .ref ta, .ref ma, .ref ga, .ref og])), (tp, .inr (7, [.ref bt, .int 8, .int 0, .int 40, .int 0, .int 0, .int 0])), (bt, .inl (K 1, 400, .inl (u_3.2.1 0)))] := G
  refine lv_aload_n E.1 E.2.1 dX10_feed_34 rfl (lv_at hl 0 rfl) ?_
  refine m_get E G 0 (ci := 10) rfl 0 (C := RX10) (T := TX10) (N := 17) rfl (by decide) mw_fl_10_10 (v := .ref tp) rfl dX10_feed_35 ?_
  refine lv_iload_n E.1 E.2.1 dX10_feed_38 rfl (lv_at hl 3 rfl) ?_
  refine m_vv E G hl (k_append_8 l D K tp bt (u_3.2.1 0) p3) (wr := [(h0, .inr (10, [.ref tp, .ref tr, .ref rr, .ref dr, .ref rs, .int 0, .ref nr, .ref nw, .ref im, .int 0, .ref ac, .ref co, .ref al, .ref ta, .ref ma, .ref ga, .ref og]))]) [1, 2] [0] rfl rfl (by decide) (by decide) (by decide) 0 (ci := 7) rfl rfl rfl 1 rfl mw_code_X7_append mw_ini_7 mw_ml_10_103 mw_inst_X7_append mw_sel_X7_append hd_X7_append ⟨by decide, by decide⟩ rfl (Nat.le_of_ble_eq_true rfl) ⟨by decide, by decide⟩ dX10_feed_39 (fun u_5 H locs hp G => ?_)
  have G : mG D A s H locs [(h0, .inr (10, [.ref tp, .ref tr, .ref rr, .ref dr, .ref rs, .int 0, .ref nr, .ref nw, .ref im, .int 0, .ref ac, .ref co, .ref al, .ref ta, .ref ma, .ref ga, .ref og])), (tp, .inr (7, [.ref bt, .int 12, .int 0, .int 40, .int 0, .int 0, .int 0])), (bt, .inl (K 1, 400, .inl (u_5.2.1 0)))] := G
  refine lv_aload_n E.1 E.2.1 dX10_feed_42 rfl (lv_at hl 0 rfl) ?_
  refine m_get E G 0 (ci := 10) rfl 0 (C := RX10) (T := TX10) (N := 17) rfl (by decide) mw_fl_10_10 (v := .ref tp) rfl dX10_feed_43 ?_
  refine lv_iload E.1 E.2.1 dX10_feed_46 (lv_at hl 4 rfl) ?_
  refine m_vv E G hl (k_append_12 l D K tp bt (u_5.2.1 0) p4) (wr := [(h0, .inr (10, [.ref tp, .ref tr, .ref rr, .ref dr, .ref rs, .int 0, .ref nr, .ref nw, .ref im, .int 0, .ref ac, .ref co, .ref al, .ref ta, .ref ma, .ref ga, .ref og]))]) [1, 2] [0] rfl rfl (by decide) (by decide) (by decide) 0 (ci := 7) rfl rfl rfl 1 rfl mw_code_X7_append mw_ini_7 mw_ml_10_103 mw_inst_X7_append mw_sel_X7_append hd_X7_append ⟨by decide, by decide⟩ rfl (Nat.le_of_ble_eq_true rfl) ⟨by decide, by decide⟩ dX10_feed_48 (fun u_7 H locs hp G => ?_)
  have G : mG D A s H locs [(h0, .inr (10, [.ref tp, .ref tr, .ref rr, .ref dr, .ref rs, .int 0, .ref nr, .ref nw, .ref im, .int 0, .ref ac, .ref co, .ref al, .ref ta, .ref ma, .ref ga, .ref og])), (tp, .inr (7, [.ref bt, .int 16, .int 0, .int 40, .int 0, .int 0, .int 0])), (bt, .inl (K 1, 400, .inl (u_7.2.1 0)))] := G
  refine lv_aload_n E.1 E.2.1 dX10_feed_51 rfl (lv_at hl 0 rfl) ?_
  refine m_get E G 0 (ci := 10) rfl 0 (C := RX10) (T := TX10) (N := 17) rfl (by decide) mw_fl_10_10 (v := .ref tp) rfl dX10_feed_52 ?_
  refine lv_iload E.1 E.2.1 dX10_feed_55 (lv_at hl 5 rfl) ?_
  refine m_vv E G hl (k_append_16 l D K tp bt (u_7.2.1 0) p5) (wr := [(h0, .inr (10, [.ref tp, .ref tr, .ref rr, .ref dr, .ref rs, .int 0, .ref nr, .ref nw, .ref im, .int 0, .ref ac, .ref co, .ref al, .ref ta, .ref ma, .ref ga, .ref og]))]) [1, 2] [0] rfl rfl (by decide) (by decide) (by decide) 0 (ci := 7) rfl rfl rfl 1 rfl mw_code_X7_append mw_ini_7 mw_ml_10_103 mw_inst_X7_append mw_sel_X7_append hd_X7_append ⟨by decide, by decide⟩ rfl (Nat.le_of_ble_eq_true rfl) ⟨by decide, by decide⟩ dX10_feed_57 (fun u_9 H locs hp G => ?_)
  have G : mG D A s H locs [(h0, .inr (10, [.ref tp, .ref tr, .ref rr, .ref dr, .ref rs, .int 0, .ref nr, .ref nw, .ref im, .int 0, .ref ac, .ref co, .ref al, .ref ta, .ref ma, .ref ga, .ref og])), (tp, .inr (7, [.ref bt, .int 20, .int 0, .int 40, .int 0, .int 0, .int 0])), (bt, .inl (K 1, 400, .inl (u_9.2.1 0)))] := G
  refine lv_aload_n E.1 E.2.1 dX10_feed_60 rfl (lv_at hl 0 rfl) ?_
  refine m_get E G 0 (ci := 10) rfl 0 (C := RX10) (T := TX10) (N := 17) rfl (by decide) mw_fl_10_10 (v := .ref tp) rfl dX10_feed_61 ?_
  refine m_get E G 1 (ci := 7) rfl 1 (C := RX7) (T := TX7) (N := 7) rfl (by decide) mw_fl_10_100 (v := .int 20) rfl dX10_feed_64 ?_
  exact m_reti E G hr rfl (fun _ => 0, fun _ _ => 0, fun _ _ => none) rfl [] (by decide) rfl (by decide) (by decide) dX10_feed_67
