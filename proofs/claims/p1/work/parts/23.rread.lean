theorem mw_code_X4_clear : (Cond.code yX4_clear cX4_clear 1 none : Cond) ∈ cw := cw_of (List.mem_append_right _ (List.mem_append_right _ (List.mem_append_right _ (List.mem_append_left _ (List.mem_of_getElem? (i := 188) rfl))))) (by decide +kernel)
theorem mw_code_X5_takeToken : (Cond.code yX5_takeToken cX5_takeToken 1 none : Cond) ∈ cw := cw_of (List.mem_append_right _ (List.mem_append_right _ (List.mem_append_right _ (List.mem_append_left _ (List.mem_of_getElem? (i := 194) rfl))))) (by decide +kernel)
theorem mw_fl_5_54 : (Cond.fieldLink RX5 54 "LureTown$Tape" "fault" "I" : Cond) ∈ cw := cw_of (List.mem_append_right _ (List.mem_append_left _ (List.mem_of_getElem? (i := 40) (by decide +kernel)))) (by decide +kernel)
theorem mw_inst_X4_clear : (Cond.instanceMethod yX4_clear : Cond) ∈ cw := cw_of (List.mem_append_right _ (List.mem_append_right _ (List.mem_append_right _ (List.mem_append_left _ (List.mem_of_getElem? (i := 186) (by decide +kernel)))))) (by decide +kernel)
theorem mw_inst_X5_takeToken : (Cond.instanceMethod yX5_takeToken : Cond) ∈ cw := cw_of (List.mem_append_right _ (List.mem_append_right _ (List.mem_append_right _ (List.mem_append_left _ (List.mem_of_getElem? (i := 193) (by decide +kernel)))))) (by decide +kernel)
theorem mw_ml_5_48 : (Cond.methodLink RX5 48 yX4_clear : Cond) ∈ cw := cw_of (List.mem_append_right _ (List.mem_append_right _ (List.mem_append_right _ (List.mem_append_left _ (List.mem_of_getElem? (i := 185) (by decide +kernel)))))) (by decide +kernel)
theorem mw_ml_5_51 : (Cond.methodLink RX5 51 yX7_rewind : Cond) ∈ cw := cw_of (List.mem_append_right _ (List.mem_append_right _ (List.mem_append_right _ (List.mem_append_left _ (List.mem_of_getElem? (i := 189) (by decide +kernel)))))) (by decide +kernel)
theorem mw_ml_5_57 : (Cond.methodLink RX5 57 yX7_readToken : Cond) ∈ cw := cw_of (List.mem_append_right _ (List.mem_append_right _ (List.mem_append_right _ (List.mem_append_left _ (List.mem_of_getElem? (i := 190) (by decide +kernel)))))) (by decide +kernel)
theorem mw_ml_5_60 : (Cond.methodLink RX5 60 yX5_takeToken : Cond) ∈ cw := cw_of (List.mem_append_right _ (List.mem_append_right _ (List.mem_append_right _ (List.mem_append_left _ (List.mem_of_getElem? (i := 191) (by decide +kernel)))))) (by decide +kernel)
theorem mw_sel_X4_clear : (Cond.selects RX4 yX4_clear yX4_clear : Cond) ∈ cw := cw_of (List.mem_append_right _ (List.mem_append_right _ (List.mem_append_right _ (List.mem_append_left _ (List.mem_of_getElem? (i := 187) (by decide +kernel)))))) (by decide +kernel)
theorem mw_sel_X5_takeToken : (Cond.selects RX5 yX5_takeToken yX5_takeToken : Cond) ∈ cw := cw_of (List.mem_append_left _ (List.mem_of_getElem? (i := 12) (by decide +kernel))) (by decide +kernel)
theorem dX5_read_0 : decode cX5_read 0 = .ok (.aload_n 0, 1) := by decide +kernel
theorem dX5_read_1 : decode cX5_read 1 = .ok (.aload_n 1, 1) := by decide +kernel
theorem dX5_read_2 : decode cX5_read 2 = .ok (.putfield 12, 3) := by decide +kernel
theorem dX5_read_5 : decode cX5_read 5 = .ok (.aload_n 0, 1) := by decide +kernel
theorem dX5_read_6 : decode cX5_read 6 = .ok (.aload_n 2, 1) := by decide +kernel
theorem dX5_read_7 : decode cX5_read 7 = .ok (.putfield 44, 3) := by decide +kernel
theorem dX5_read_10 : decode cX5_read 10 = .ok (.aload_n 0, 1) := by decide +kernel
theorem dX5_read_11 : decode cX5_read 11 = .ok (.getfield 44, 3) := by decide +kernel
theorem dX5_read_14 : decode cX5_read 14 = .ok (.invokevirtual 48, 3) := by decide +kernel
theorem dX5_read_17 : decode cX5_read 17 = .ok (.aload_n 0, 1) := by decide +kernel
theorem dX5_read_18 : decode cX5_read 18 = .ok (.getfield 12, 3) := by decide +kernel
theorem dX5_read_21 : decode cX5_read 21 = .ok (.invokevirtual 51, 3) := by decide +kernel
theorem dX5_read_24 : decode cX5_read 24 = .ok (.aload_n 0, 1) := by decide +kernel
theorem dX5_read_25 : decode cX5_read 25 = .ok (.iconst 0, 1) := by decide +kernel
theorem dX5_read_26 : decode cX5_read 26 = .ok (.putfield 22, 3) := by decide +kernel
theorem dX5_read_29 : decode cX5_read 29 = .ok (.aload_n 0, 1) := by decide +kernel
theorem dX5_read_30 : decode cX5_read 30 = .ok (.iconst 0, 1) := by decide +kernel
theorem dX5_read_31 : decode cX5_read 31 = .ok (.putfield 26, 3) := by decide +kernel
theorem dX5_read_34 : decode cX5_read 34 = .ok (.aload_n 0, 1) := by decide +kernel
theorem dX5_read_35 : decode cX5_read 35 = .ok (.iconst 0, 1) := by decide +kernel
theorem dX5_read_36 : decode cX5_read 36 = .ok (.putfield 29, 3) := by decide +kernel
theorem dX5_read_39 : decode cX5_read 39 = .ok (.aload_n 0, 1) := by decide +kernel
theorem dX5_read_40 : decode cX5_read 40 = .ok (.iconst 0, 1) := by decide +kernel
theorem dX5_read_41 : decode cX5_read 41 = .ok (.putfield 32, 3) := by decide +kernel
theorem dX5_read_44 : decode cX5_read 44 = .ok (.aload_n 0, 1) := by decide +kernel
theorem dX5_read_45 : decode cX5_read 45 = .ok (.iconst 0, 1) := by decide +kernel
theorem dX5_read_46 : decode cX5_read 46 = .ok (.putfield 35, 3) := by decide +kernel
theorem dX5_read_49 : decode cX5_read 49 = .ok (.iconst 0, 1) := by decide +kernel
theorem dX5_read_50 : decode cX5_read 50 = .ok (.istore_n 3, 1) := by decide +kernel
theorem dX5_read_51 : decode cX5_read 51 = .ok (.iload_n 3, 1) := by decide +kernel
theorem dX5_read_52 : decode cX5_read 52 = .ok (.sipush 400, 3) := by decide +kernel
theorem dX5_read_55 : decode cX5_read 55 = .ok (.if_icmp .gt 38, 3) := by decide +kernel
theorem dX5_read_58 : decode cX5_read 58 = .ok (.aload_n 0, 1) := by decide +kernel
theorem dX5_read_59 : decode cX5_read 59 = .ok (.getfield 12, 3) := by decide +kernel
theorem dX5_read_62 : decode cX5_read 62 = .ok (.getfield 54, 3) := by decide +kernel
theorem dX5_read_65 : decode cX5_read 65 = .ok (.ifCond .ne 28, 3) := by decide +kernel
theorem dX5_read_68 : decode cX5_read 68 = .ok (.aload_n 0, 1) := by decide +kernel
theorem dX5_read_69 : decode cX5_read 69 = .ok (.getfield 35, 3) := by decide +kernel
theorem dX5_read_72 : decode cX5_read 72 = .ok (.iconst 4, 1) := by decide +kernel
theorem dX5_read_73 : decode cX5_read 73 = .ok (.if_icmp .eq 20, 3) := by decide +kernel
theorem dX5_read_76 : decode cX5_read 76 = .ok (.aload_n 0, 1) := by decide +kernel
theorem dX5_read_77 : decode cX5_read 77 = .ok (.getfield 12, 3) := by decide +kernel
theorem dX5_read_80 : decode cX5_read 80 = .ok (.invokevirtual 57, 3) := by decide +kernel
theorem dX5_read_83 : decode cX5_read 83 = .ok (.aload_n 0, 1) := by decide +kernel
theorem dX5_read_84 : decode cX5_read 84 = .ok (.invokevirtual 60, 3) := by decide +kernel
theorem dX5_read_87 : decode cX5_read 87 = .ok (.iinc 3 1, 3) := by decide +kernel
theorem dX5_read_90 : decode cX5_read 90 = .ok (.goto (-39), 3) := by decide +kernel
theorem dX5_read_93 : decode cX5_read 93 = .ok (.return_, 1) := by decide +kernel
theorem hd_X4_clear : yX4_clear.cls ≠ "java/lang/invoke/MethodHandle" ∧ yX4_clear.cls ≠ "java/lang/invoke/VarHandle" ∧ (parseMethodDescriptor yX4_clear.desc).map (fun d => d.parameters.length) = some 0 := ⟨by decide +kernel, by decide +kernel, by decide +kernel⟩
theorem hd_X5_takeToken : yX5_takeToken.cls ≠ "java/lang/invoke/MethodHandle" ∧ yX5_takeToken.cls ≠ "java/lang/invoke/VarHandle" ∧ (parseMethodDescriptor yX5_takeToken.desc).map (fun d => d.parameters.length) = some 0 := ⟨by decide +kernel, by decide +kernel, by decide +kernel⟩
set_option maxHeartbeats 4000000 in
set_option maxRecDepth 100000 in
theorem k_rread (l : Launch) (D : va_G) (K : Nat → ClassId) (rr : Nat) (r1 : Nat) (r0 : Nat) (r2 : Nat) (tp : Nat) (bt : Nat) (ru : Nat) (c0 : Nat) (c1 : Nat) (c2 : Nat) (c3 : Nat) : mV (S := mU) l yX5_read cX5_read 4 ({ frames := 3, cells := 0, slots := 0, locals := 61 }) D K [(rr, .inr (5, [.ref r0, .ref r1, .int 0, .int 0, .int 0, .int 0, .int 0, .int 0, .ref r2])), (tp, .inr (7, [.ref bt, .int 0, .int 0, .int 40, .int 0, .int 0, .int 0])), (ru, .inr (4, [.int 0, .ref c0, .int 0, .ref c1, .ref c2, .ref c3])), (c2, .inl (K 0, 13, .inl (fun _ => 0)))] [.ref rr, .ref tp, .ref ru] (fun u => True) (fun u => [(tp, .inr (7, [.ref bt, .int 0, .int 1, .int 40, .int 0, .int 0, .int 0]))]) := by
  refine m_enterV (by decide) (Nat.le_of_ble_eq_true rfl) ?_
  intro p e s m args below meth c A ls E hr hN G hl
  have E : mE p s m meth c cX5_read args 4 RX5 D K A := E
  have hl : lv_has ls 4 [(0, .ref rr), (1, .ref tp), (2, .ref ru)] := hl
  obtain ⟨H, hH⟩ : ∃ H, H = s.heap := ⟨_, rfl⟩
  obtain ⟨locs, hlo⟩ : ∃ L : List Loc, L = [] := ⟨_, rfl⟩
  rw [← hH, ← hlo] at G
  rw [← hH, ← hlo]
  have G : mG D A s H locs [(rr, .inr (5, [.ref r0, .ref r1, .int 0, .int 0, .int 0, .int 0, .int 0, .int 0, .ref r2])), (tp, .inr (7, [.ref bt, .int 0, .int 0, .int 40, .int 0, .int 0, .int 0])), (ru, .inr (4, [.int 0, .ref c0, .int 0, .ref c1, .ref c2, .ref c3])), (c2, .inl (K 0, 13, .inl (fun _ => 0)))] := G
  clear hH hlo
  refine lv_aload_n E.1 E.2.1 dX5_read_0 rfl (lv_at hl 0 rfl) ?_
  refine lv_aload_n E.1 E.2.1 dX5_read_1 rfl (lv_at hl 1 rfl) ?_
  refine m_put E G 0 (ci := 5) rfl 0 (C := RX5) (T := TX5) (N := 9) rfl (by decide) mw_fl_5_12 rfl rfl rfl (Nat.le_of_ble_eq_true rfl) dX5_read_2 (fun H locs G => ?_)
  have G : mG D A s H locs [(rr, .inr (5, [.ref tp, .ref r1, .int 0, .int 0, .int 0, .int 0, .int 0, .int 0, .ref r2])), (tp, .inr (7, [.ref bt, .int 0, .int 0, .int 40, .int 0, .int 0, .int 0])), (ru, .inr (4, [.int 0, .ref c0, .int 0, .ref c1, .ref c2, .ref c3])), (c2, .inl (K 0, 13, .inl (fun _ => 0)))] := G
  refine lv_aload_n E.1 E.2.1 dX5_read_5 rfl (lv_at hl 0 rfl) ?_
  refine lv_aload_n E.1 E.2.1 dX5_read_6 rfl (lv_at hl 2 rfl) ?_
  refine m_put E G 0 (ci := 5) rfl 8 (C := RX5) (T := TX5) (N := 9) rfl (by decide) mw_fl_5_44 rfl rfl rfl (Nat.le_of_ble_eq_true rfl) dX5_read_7 (fun H locs G => ?_)
  have G : mG D A s H locs [(rr, .inr (5, [.ref tp, .ref r1, .int 0, .int 0, .int 0, .int 0, .int 0, .int 0, .ref ru])), (tp, .inr (7, [.ref bt, .int 0, .int 0, .int 40, .int 0, .int 0, .int 0])), (ru, .inr (4, [.int 0, .ref c0, .int 0, .ref c1, .ref c2, .ref c3])), (c2, .inl (K 0, 13, .inl (fun _ => 0)))] := G
  refine lv_aload_n E.1 E.2.1 dX5_read_10 rfl (lv_at hl 0 rfl) ?_
  refine m_get E G 0 (ci := 5) rfl 8 (C := RX5) (T := TX5) (N := 9) rfl (by decide) mw_fl_5_44 (v := .ref ru) rfl dX5_read_11 ?_
  refine m_vv E G hl (k_rclear l D K ru c0 c1 c2 c3) (wr := [(rr, .inr (5, [.ref tp, .ref r1, .int 0, .int 0, .int 0, .int 0, .int 0, .int 0, .ref ru])), (tp, .inr (7, [.ref bt, .int 0, .int 0, .int 40, .int 0, .int 0, .int 0]))]) [2, 3] [0, 1] rfl rfl (by decide) (by decide) (by decide) 0 (ci := 4) rfl rfl rfl 0 rfl mw_code_X4_clear mw_ini_4 mw_ml_5_48 mw_inst_X4_clear mw_sel_X4_clear hd_X4_clear ⟨by decide, by decide⟩ rfl (Nat.le_of_ble_eq_true rfl) ⟨by decide, by decide⟩ dX5_read_14 (fun u_1 H locs hp G => ?_)
  have G : mG D A s H locs [(rr, .inr (5, [.ref tp, .ref r1, .int 0, .int 0, .int 0, .int 0, .int 0, .int 0, .ref ru])), (tp, .inr (7, [.ref bt, .int 0, .int 0, .int 40, .int 0, .int 0, .int 0])), (ru, .inr (4, [.int 0, .ref c0, .int 0, .ref c1, .ref c2, .ref c3])), (c2, .inl (K 0, 13, .inl (u_1.2.1 0)))] := G
  refine lv_aload_n E.1 E.2.1 dX5_read_17 rfl (lv_at hl 0 rfl) ?_
  refine m_get E G 0 (ci := 5) rfl 0 (C := RX5) (T := TX5) (N := 9) rfl (by decide) mw_fl_5_12 (v := .ref tp) rfl dX5_read_18 ?_
  refine m_vv E G hl (k_rewind l D K tp bt) (wr := [(rr, .inr (5, [.ref tp, .ref r1, .int 0, .int 0, .int 0, .int 0, .int 0, .int 0, .ref ru])), (ru, .inr (4, [.int 0, .ref c0, .int 0, .ref c1, .ref c2, .ref c3])), (c2, .inl (K 0, 13, .inl (u_1.2.1 0)))]) [1] [0, 2, 3] rfl rfl (by decide) (by decide) (by decide) 0 (ci := 7) rfl rfl rfl 0 rfl mw_code_X7_rewind mw_ini_7 mw_ml_5_51 mw_inst_X7_rewind mw_sel_X7_rewind hd_X7_rewind ⟨by decide, by decide⟩ rfl (Nat.le_of_ble_eq_true rfl) ⟨by decide, by decide⟩ dX5_read_21 (fun u_3 H locs hp G => ?_)
  have G : mG D A s H locs [(rr, .inr (5, [.ref tp, .ref r1, .int 0, .int 0, .int 0, .int 0, .int 0, .int 0, .ref ru])), (ru, .inr (4, [.int 0, .ref c0, .int 0, .ref c1, .ref c2, .ref c3])), (c2, .inl (K 0, 13, .inl (u_1.2.1 0))), (tp, .inr (7, [.ref bt, .int 0, .int 0, .int 40, .int 0, .int 0, .int 0]))] := G
  refine lv_aload_n E.1 E.2.1 dX5_read_24 rfl (lv_at hl 0 rfl) ?_
  refine lv_iconst (v := 0) E.1 E.2.1 dX5_read_25 (by decide) ?_
  refine m_put E G 0 (ci := 5) rfl 2 (C := RX5) (T := TX5) (N := 9) rfl (by decide) mw_fl_5_22 rfl rfl rfl (Nat.le_of_ble_eq_true rfl) dX5_read_26 (fun H locs G => ?_)
  have G : mG D A s H locs [(rr, .inr (5, [.ref tp, .ref r1, .int 0, .int 0, .int 0, .int 0, .int 0, .int 0, .ref ru])), (ru, .inr (4, [.int 0, .ref c0, .int 0, .ref c1, .ref c2, .ref c3])), (c2, .inl (K 0, 13, .inl (u_1.2.1 0))), (tp, .inr (7, [.ref bt, .int 0, .int 0, .int 40, .int 0, .int 0, .int 0]))] := G
  refine lv_aload_n E.1 E.2.1 dX5_read_29 rfl (lv_at hl 0 rfl) ?_
  refine lv_iconst (v := 0) E.1 E.2.1 dX5_read_30 (by decide) ?_
  refine m_put E G 0 (ci := 5) rfl 3 (C := RX5) (T := TX5) (N := 9) rfl (by decide) mw_fl_5_26 rfl rfl rfl (Nat.le_of_ble_eq_true rfl) dX5_read_31 (fun H locs G => ?_)
  have G : mG D A s H locs [(rr, .inr (5, [.ref tp, .ref r1, .int 0, .int 0, .int 0, .int 0, .int 0, .int 0, .ref ru])), (ru, .inr (4, [.int 0, .ref c0, .int 0, .ref c1, .ref c2, .ref c3])), (c2, .inl (K 0, 13, .inl (u_1.2.1 0))), (tp, .inr (7, [.ref bt, .int 0, .int 0, .int 40, .int 0, .int 0, .int 0]))] := G
  refine lv_aload_n E.1 E.2.1 dX5_read_34 rfl (lv_at hl 0 rfl) ?_
  refine lv_iconst (v := 0) E.1 E.2.1 dX5_read_35 (by decide) ?_
  refine m_put E G 0 (ci := 5) rfl 4 (C := RX5) (T := TX5) (N := 9) rfl (by decide) mw_fl_5_29 rfl rfl rfl (Nat.le_of_ble_eq_true rfl) dX5_read_36 (fun H locs G => ?_)
  have G : mG D A s H locs [(rr, .inr (5, [.ref tp, .ref r1, .int 0, .int 0, .int 0, .int 0, .int 0, .int 0, .ref ru])), (ru, .inr (4, [.int 0, .ref c0, .int 0, .ref c1, .ref c2, .ref c3])), (c2, .inl (K 0, 13, .inl (u_1.2.1 0))), (tp, .inr (7, [.ref bt, .int 0, .int 0, .int 40, .int 0, .int 0, .int 0]))] := G
  refine lv_aload_n E.1 E.2.1 dX5_read_39 rfl (lv_at hl 0 rfl) ?_
  refine lv_iconst (v := 0) E.1 E.2.1 dX5_read_40 (by decide) ?_
  refine m_put E G 0 (ci := 5) rfl 5 (C := RX5) (T := TX5) (N := 9) rfl (by decide) mw_fl_5_32 rfl rfl rfl (Nat.le_of_ble_eq_true rfl) dX5_read_41 (fun H locs G => ?_)
  have G : mG D A s H locs [(rr, .inr (5, [.ref tp, .ref r1, .int 0, .int 0, .int 0, .int 0, .int 0, .int 0, .ref ru])), (ru, .inr (4, [.int 0, .ref c0, .int 0, .ref c1, .ref c2, .ref c3])), (c2, .inl (K 0, 13, .inl (u_1.2.1 0))), (tp, .inr (7, [.ref bt, .int 0, .int 0, .int 40, .int 0, .int 0, .int 0]))] := G
  refine lv_aload_n E.1 E.2.1 dX5_read_44 rfl (lv_at hl 0 rfl) ?_
  refine lv_iconst (v := 0) E.1 E.2.1 dX5_read_45 (by decide) ?_
  refine m_put E G 0 (ci := 5) rfl 6 (C := RX5) (T := TX5) (N := 9) rfl (by decide) mw_fl_5_35 rfl rfl rfl (Nat.le_of_ble_eq_true rfl) dX5_read_46 (fun H locs G => ?_)
  have G : mG D A s H locs [(rr, .inr (5, [.ref tp, .ref r1, .int 0, .int 0, .int 0, .int 0, .int 0, .int 0, .ref ru])), (ru, .inr (4, [.int 0, .ref c0, .int 0, .ref c1, .ref c2, .ref c3])), (c2, .inl (K 0, 13, .inl (u_1.2.1 0))), (tp, .inr (7, [.ref bt, .int 0, .int 0, .int 40, .int 0, .int 0, .int 0]))] := G
  refine lv_iconst (v := 0) E.1 E.2.1 dX5_read_49 (by decide) ?_
  refine lv_istore_n (lv' := [(3, .int 0), (0, .ref rr), (1, .ref tp), (2, .ref ru)]) E.1 E.2.1 dX5_read_50 rfl hl (by decide) rfl (fun ls hl => ?_)
  refine lv_iload_n E.1 E.2.1 dX5_read_51 rfl (lv_at hl 0 rfl) ?_
  refine lv_sipush (v := 400) E.1 E.2.1 dX5_read_52 (by decide) ?_
  refine lv_icmp_gt (tgt := 93) E.1 E.2.1 dX5_read_55 (by decide) (fun h => absurd h (by decide)) (fun _ => ?_)
  refine lv_aload_n E.1 E.2.1 dX5_read_58 rfl (lv_at hl 1 rfl) ?_
  refine m_get E G 0 (ci := 5) rfl 0 (C := RX5) (T := TX5) (N := 9) rfl (by decide) mw_fl_5_12 (v := .ref tp) rfl dX5_read_59 ?_
  refine m_get E G 3 (ci := 7) rfl 2 (C := RX7) (T := TX7) (N := 7) rfl (by decide) mw_fl_5_54 (v := .int 0) rfl dX5_read_62 ?_
  refine lv_if_ne (tgt := 93) E.1 E.2.1 dX5_read_65 (by decide) (fun h => absurd (by decide) h) (fun _ => ?_)
  refine lv_aload_n E.1 E.2.1 dX5_read_68 rfl (lv_at hl 1 rfl) ?_
  refine m_get E G 0 (ci := 5) rfl 6 (C := RX5) (T := TX5) (N := 9) rfl (by decide) mw_fl_5_35 (v := .int 0) rfl dX5_read_69 ?_
  refine lv_iconst (v := 4) E.1 E.2.1 dX5_read_72 (by decide) ?_
  refine lv_icmp_eq (tgt := 93) E.1 E.2.1 dX5_read_73 (by decide) (fun h => absurd h (by decide)) (fun _ => ?_)
  refine lv_aload_n E.1 E.2.1 dX5_read_76 rfl (lv_at hl 1 rfl) ?_
  refine m_get E G 0 (ci := 5) rfl 0 (C := RX5) (T := TX5) (N := 9) rfl (by decide) mw_fl_5_12 (v := .ref tp) rfl dX5_read_77 ?_
  refine m_vv E G hl (k_readToken l D K tp bt) (wr := [(rr, .inr (5, [.ref tp, .ref r1, .int 0, .int 0, .int 0, .int 0, .int 0, .int 0, .ref ru])), (ru, .inr (4, [.int 0, .ref c0, .int 0, .ref c1, .ref c2, .ref c3])), (c2, .inl (K 0, 13, .inl (u_1.2.1 0)))]) [3] [0, 1, 2] rfl rfl (by decide) (by decide) (by decide) 0 (ci := 7) rfl rfl rfl 0 rfl mw_code_X7_readToken mw_ini_7 mw_ml_5_57 mw_inst_X7_readToken mw_sel_X7_readToken hd_X7_readToken ⟨by decide, by decide⟩ rfl (Nat.le_of_ble_eq_true rfl) ⟨by decide, by decide⟩ dX5_read_80 (fun u_5 H locs hp G => ?_)
  have G : mG D A s H locs [(rr, .inr (5, [.ref tp, .ref r1, .int 0, .int 0, .int 0, .int 0, .int 0, .int 0, .ref ru])), (ru, .inr (4, [.int 0, .ref c0, .int 0, .ref c1, .ref c2, .ref c3])), (c2, .inl (K 0, 13, .inl (u_1.2.1 0))), (tp, .inr (7, [.ref bt, .int 0, .int 0, .int 40, .int 0, .int 0, .int 0]))] := G
  refine lv_aload_n E.1 E.2.1 dX5_read_83 rfl (lv_at hl 1 rfl) ?_
  refine m_vv E G hl (k_takeToken l D K rr r1 ru tp bt) (wr := [(ru, .inr (4, [.int 0, .ref c0, .int 0, .ref c1, .ref c2, .ref c3])), (c2, .inl (K 0, 13, .inl (u_1.2.1 0)))]) [0, 3] [1, 2] rfl rfl (by decide) (by decide) (by decide) 0 (ci := 5) rfl rfl rfl 0 rfl mw_code_X5_takeToken mw_ini_5 mw_ml_5_60 mw_inst_X5_takeToken mw_sel_X5_takeToken hd_X5_takeToken ⟨by decide, by decide⟩ rfl (Nat.le_of_ble_eq_true rfl) ⟨by decide, by decide⟩ dX5_read_84 (fun u_7 H locs hp G => ?_)
  have G : mG D A s H locs [(ru, .inr (4, [.int 0, .ref c0, .int 0, .ref c1, .ref c2, .ref c3])), (c2, .inl (K 0, 13, .inl (u_1.2.1 0))), (rr, .inr (5, [.ref tp, .ref r1, .int 0, .int 0, .int 0, .int 0, .int 0, .int 0, .ref ru])), (tp, .inr (7, [.ref bt, .int 0, .int 1, .int 40, .int 0, .int 0, .int 0]))] := G
  refine lv_iinc (v := 1) (lv' := [(3, .int 1), (0, .ref rr), (1, .ref tp), (2, .ref ru)]) E.1 E.2.1 dX5_read_87 hl (k := 0) rfl (by decide) (by decide) rfl (fun ls hl => ?_)
  refine lv_goto (tgt := 51) E.1 E.2.1 dX5_read_90 (by decide) ?_
  refine lv_iload_n E.1 E.2.1 dX5_read_51 rfl (lv_at hl 0 rfl) ?_
  refine lv_sipush (v := 400) E.1 E.2.1 dX5_read_52 (by decide) ?_
  refine lv_icmp_gt (tgt := 93) E.1 E.2.1 dX5_read_55 (by decide) (fun h => absurd h (by decide)) (fun _ => ?_)
  refine lv_aload_n E.1 E.2.1 dX5_read_58 rfl (lv_at hl 1 rfl) ?_
  refine m_get E G 2 (ci := 5) rfl 0 (C := RX5) (T := TX5) (N := 9) rfl (by decide) mw_fl_5_12 (v := .ref tp) rfl dX5_read_59 ?_
  refine m_get E G 3 (ci := 7) rfl 2 (C := RX7) (T := TX7) (N := 7) rfl (by decide) mw_fl_5_54 (v := .int 1) rfl dX5_read_62 ?_
  refine lv_if_ne (tgt := 93) E.1 E.2.1 dX5_read_65 (by decide) (fun _ => ?_) (fun h => absurd h (by decide))
  exact m_retv E G hr (fun _ => 0, fun _ _ => 0, fun _ _ => none) trivial [3] (by decide) rfl (by decide) (by decide) dX5_read_93
