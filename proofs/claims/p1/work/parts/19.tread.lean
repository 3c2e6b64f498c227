theorem mw_code_X7_rewind : (Cond.code yX7_rewind cX7_rewind 1 none : Cond) ∈ cw := cw_of (List.mem_append_right _ (List.mem_append_right _ (List.mem_append_left _ (List.mem_of_getElem? (i := 207) rfl)))) (by decide +kernel)
theorem mw_code_X8_clear : (Cond.code yX8_clear cX8_clear 2 none : Cond) ∈ cw := cw_of (List.mem_append_right _ (List.mem_append_right _ (List.mem_append_left _ (List.mem_of_getElem? (i := 203) rfl)))) (by decide +kernel)
theorem mw_code_X9_readClause : (Cond.code yX9_readClause cX9_readClause 5 none : Cond) ∈ cw := cw_of (List.mem_append_right _ (List.mem_append_right _ (List.mem_append_left _ (List.mem_of_getElem? (i := 211) rfl)))) (by decide +kernel)
theorem mw_fl_9_39 : (Cond.fieldLink RX9 39 "LureTown$Tape" "fault" "I" : Cond) ∈ cw := cw_of (List.mem_append_right _ (List.mem_append_left _ (List.mem_of_getElem? (i := 39) (by decide +kernel)))) (by decide +kernel)
theorem mw_ini_9 : (Cond.initialized RX9 : Cond) ∈ cw := cw_of (List.mem_append_right _ (List.mem_append_left _ (List.mem_of_getElem? (i := 3) (by decide +kernel)))) (by decide +kernel)
theorem mw_inst_X7_rewind : (Cond.instanceMethod yX7_rewind : Cond) ∈ cw := cw_of (List.mem_append_right _ (List.mem_append_right _ (List.mem_append_left _ (List.mem_of_getElem? (i := 205) (by decide +kernel))))) (by decide +kernel)
theorem mw_inst_X8_clear : (Cond.instanceMethod yX8_clear : Cond) ∈ cw := cw_of (List.mem_append_right _ (List.mem_append_right _ (List.mem_append_left _ (List.mem_of_getElem? (i := 201) (by decide +kernel))))) (by decide +kernel)
theorem mw_inst_X9_readClause : (Cond.instanceMethod yX9_readClause : Cond) ∈ cw := cw_of (List.mem_append_right _ (List.mem_append_right _ (List.mem_append_left _ (List.mem_of_getElem? (i := 210) (by decide +kernel))))) (by decide +kernel)
theorem mw_ml_9_29 : (Cond.methodLink RX9 29 yX8_clear : Cond) ∈ cw := cw_of (List.mem_append_right _ (List.mem_append_right _ (List.mem_append_left _ (List.mem_of_getElem? (i := 200) (by decide +kernel))))) (by decide +kernel)
theorem mw_ml_9_32 : (Cond.methodLink RX9 32 yX7_rewind : Cond) ∈ cw := cw_of (List.mem_append_right _ (List.mem_append_right _ (List.mem_append_left _ (List.mem_of_getElem? (i := 204) (by decide +kernel))))) (by decide +kernel)
theorem mw_ml_9_35 : (Cond.methodLink RX9 35 yX9_readClause : Cond) ∈ cw := cw_of (List.mem_append_right _ (List.mem_append_right _ (List.mem_append_left _ (List.mem_of_getElem? (i := 208) (by decide +kernel))))) (by decide +kernel)
theorem mw_sel_X7_rewind : (Cond.selects RX7 yX7_rewind yX7_rewind : Cond) ∈ cw := cw_of (List.mem_append_right _ (List.mem_append_right _ (List.mem_append_left _ (List.mem_of_getElem? (i := 206) (by decide +kernel))))) (by decide +kernel)
theorem mw_sel_X8_clear : (Cond.selects RX8 yX8_clear yX8_clear : Cond) ∈ cw := cw_of (List.mem_append_right _ (List.mem_append_right _ (List.mem_append_left _ (List.mem_of_getElem? (i := 202) (by decide +kernel))))) (by decide +kernel)
theorem mw_sel_X9_readClause : (Cond.selects RX9 yX9_readClause yX9_readClause : Cond) ∈ cw := cw_of (List.mem_append_left _ (List.mem_of_getElem? (i := 0) (by decide +kernel))) (by decide +kernel)
theorem dX9_read_0 : decode cX9_read 0 = .ok (.aload_n 0, 1) := by decide +kernel
theorem dX9_read_1 : decode cX9_read 1 = .ok (.aload_n 1, 1) := by decide +kernel
theorem dX9_read_2 : decode cX9_read 2 = .ok (.putfield 12, 3) := by decide +kernel
theorem dX9_read_5 : decode cX9_read 5 = .ok (.aload_n 0, 1) := by decide +kernel
theorem dX9_read_6 : decode cX9_read 6 = .ok (.aload_n 2, 1) := by decide +kernel
theorem dX9_read_7 : decode cX9_read 7 = .ok (.putfield 21, 3) := by decide +kernel
theorem dX9_read_10 : decode cX9_read 10 = .ok (.aload_n 0, 1) := by decide +kernel
theorem dX9_read_11 : decode cX9_read 11 = .ok (.getfield 21, 3) := by decide +kernel
theorem dX9_read_14 : decode cX9_read 14 = .ok (.invokevirtual 29, 3) := by decide +kernel
theorem dX9_read_17 : decode cX9_read 17 = .ok (.aload_n 0, 1) := by decide +kernel
theorem dX9_read_18 : decode cX9_read 18 = .ok (.getfield 12, 3) := by decide +kernel
theorem dX9_read_21 : decode cX9_read 21 = .ok (.invokevirtual 32, 3) := by decide +kernel
theorem dX9_read_24 : decode cX9_read 24 = .ok (.iconst 1, 1) := by decide +kernel
theorem dX9_read_25 : decode cX9_read 25 = .ok (.istore_n 3, 1) := by decide +kernel
theorem dX9_read_26 : decode cX9_read 26 = .ok (.iconst 0, 1) := by decide +kernel
theorem dX9_read_27 : decode cX9_read 27 = .ok (.istore 4, 2) := by decide +kernel
theorem dX9_read_29 : decode cX9_read 29 = .ok (.iload 4, 2) := by decide +kernel
theorem dX9_read_31 : decode cX9_read 31 = .ok (.bipush 40, 2) := by decide +kernel
theorem dX9_read_33 : decode cX9_read 33 = .ok (.if_icmp .gt 47, 3) := by decide +kernel
theorem dX9_read_36 : decode cX9_read 36 = .ok (.iload_n 3, 1) := by decide +kernel
theorem dX9_read_37 : decode cX9_read 37 = .ok (.ifCond .eq 43, 3) := by decide +kernel
theorem dX9_read_40 : decode cX9_read 40 = .ok (.aload_n 0, 1) := by decide +kernel
theorem dX9_read_41 : decode cX9_read 41 = .ok (.iload 4, 2) := by decide +kernel
theorem dX9_read_43 : decode cX9_read 43 = .ok (.invokevirtual 35, 3) := by decide +kernel
theorem dX9_read_46 : decode cX9_read 46 = .ok (.aload_n 0, 1) := by decide +kernel
theorem dX9_read_47 : decode cX9_read 47 = .ok (.getfield 12, 3) := by decide +kernel
theorem dX9_read_50 : decode cX9_read 50 = .ok (.getfield 39, 3) := by decide +kernel
theorem dX9_read_53 : decode cX9_read 53 = .ok (.ifCond .ne 19, 3) := by decide +kernel
theorem dX9_read_72 : decode cX9_read 72 = .ok (.iconst 0, 1) := by decide +kernel
theorem dX9_read_73 : decode cX9_read 73 = .ok (.istore_n 3, 1) := by decide +kernel
theorem dX9_read_74 : decode cX9_read 74 = .ok (.iinc 4 1, 3) := by decide +kernel
theorem dX9_read_77 : decode cX9_read 77 = .ok (.goto (-48), 3) := by decide +kernel
theorem dX9_read_80 : decode cX9_read 80 = .ok (.aload_n 0, 1) := by decide +kernel
theorem dX9_read_81 : decode cX9_read 81 = .ok (.getfield 12, 3) := by decide +kernel
theorem dX9_read_84 : decode cX9_read 84 = .ok (.getfield 39, 3) := by decide +kernel
theorem dX9_read_87 : decode cX9_read 87 = .ok (.ifCond .ne 10, 3) := by decide +kernel
theorem dX9_read_97 : decode cX9_read 97 = .ok (.return_, 1) := by decide +kernel
theorem hd_X7_rewind : yX7_rewind.cls ≠ "java/lang/invoke/MethodHandle" ∧ yX7_rewind.cls ≠ "java/lang/invoke/VarHandle" ∧ (parseMethodDescriptor yX7_rewind.desc).map (fun d => d.parameters.length) = some 0 := ⟨by decide +kernel, by decide +kernel, by decide +kernel⟩
theorem hd_X8_clear : yX8_clear.cls ≠ "java/lang/invoke/MethodHandle" ∧ yX8_clear.cls ≠ "java/lang/invoke/VarHandle" ∧ (parseMethodDescriptor yX8_clear.desc).map (fun d => d.parameters.length) = some 0 := ⟨by decide +kernel, by decide +kernel, by decide +kernel⟩
theorem hd_X9_readClause : yX9_readClause.cls ≠ "java/lang/invoke/MethodHandle" ∧ yX9_readClause.cls ≠ "java/lang/invoke/VarHandle" ∧ (parseMethodDescriptor yX9_readClause.desc).map (fun d => d.parameters.length) = some 1 := ⟨by decide +kernel, by decide +kernel, by decide +kernel⟩
set_option maxHeartbeats 4000000 in
set_option maxRecDepth 100000 in
theorem k_tread (l : Launch) (D : va_G) (K : Nat → ClassId) (tr : Nat) (t0 : Nat) (t1 : Nat) (t2 : Nat) (dr : Nat) (tp : Nat) (bt : Nat) (j0 : Nat) (j1 : Nat) (j2 : Nat) (j3 : Nat) (j4 : Nat) (j5 : Nat) (s0 : Nat) (s1 : Nat) (s2 : Nat) (s3 : Nat) (s4 : Nat) (s5 : Nat) : mV (S := mU) l yX9_read cX9_read 5 ({ frames := 2, cells := 0, slots := 0, locals := 45 }) D K [(tr, .inr (9, [.ref t0, .ref t1, .ref t2])), (tp, .inr (7, [.ref bt, .int 0, .int 0, .int 40, .int 0, .int 0, .int 0])), (dr, .inr (8, [.int 0, .int 0, .int 0, .int 0, .ref j0, .ref j1, .ref j2, .ref j3, .ref j4, .ref j5])), (j0, .inl (K 0, 8, .inl (fun _ => 0))), (j4, .inr (6, [.ref s0, .ref s1, .ref s2, .ref s3, .ref s4, .ref s5, .int 0, .int 0]))] [.ref tr, .ref tp, .ref dr] (fun u => True) (fun u => [(tp, .inr (7, [.ref bt, .int 0, .int 1, .int 40, .int 0, .int 0, .int 0]))]) := by
  refine m_enterV (by decide) (Nat.le_of_ble_eq_true rfl) ?_
  intro p e s m args below meth c A ls E hr hN G hl
  have E : mE p s m meth c cX9_read args 5 RX9 D K A := E
  have hl : lv_has ls 5 [(0, .ref tr), (1, .ref tp), (2, .ref dr)] := hl
  obtain ⟨H, hH⟩ : ∃ H, H = s.heap := ⟨_, rfl⟩
  obtain ⟨locs, hlo⟩ : ∃ L : List Loc, L = [] := ⟨_, rfl⟩
  rw [← hH, ← hlo] at G
  rw [← hH, ← hlo]
  have G : mG D A s H locs [(tr, .inr (9, [.ref t0, .ref t1, .ref t2])), (tp, .inr (7, [.ref bt, .int 0, .int 0, .int 40, .int 0, .int 0, .int 0])), (dr, .inr (8, [.int 0, .int 0, .int 0, .int 0, .ref j0, .ref j1, .ref j2, .ref j3, .ref j4, .ref j5])), (j0, .inl (K 0, 8, .inl (fun _ => 0))), (j4, .inr (6, [.ref s0, .ref s1, .ref s2, .ref s3, .ref s4, .ref s5, .int 0, .int 0]))] := G
  clear hH hlo
  refine lv_aload_n E.1 E.2.1 dX9_read_0 rfl (lv_at hl 0 rfl) ?_
  refine lv_aload_n E.1 E.2.1 dX9_read_1 rfl (lv_at hl 1 rfl) ?_
  refine m_put E G 0 (ci := 9) rfl 0 (C := RX9) (T := TX9) (N := 3) rfl (by decide) mw_fl_9_12 rfl rfl rfl (Nat.le_of_ble_eq_true rfl) dX9_read_2 (fun H locs G => ?_)
  have G : mG D A s H locs [(tr, .inr (9, [.ref tp, .ref t1, .ref t2])), (tp, .inr (7, [.ref bt, .int 0, .int 0, .int 40, .int 0, .int 0, .int 0])), (dr, .inr (8, [.int 0, .int 0, .int 0, .int 0, .ref j0, .ref j1, .ref j2, .ref j3, .ref j4, .ref j5])), (j0, .inl (K 0, 8, .inl (fun _ => 0))), (j4, .inr (6, [.ref s0, .ref s1, .ref s2, .ref s3, .ref s4, .ref s5, .int 0, .int 0]))] := G
  refine lv_aload_n E.1 E.2.1 dX9_read_5 rfl (lv_at hl 0 rfl) ?_
  refine lv_aload_n E.1 E.2.1 dX9_read_6 rfl (lv_at hl 2 rfl) ?_
  refine m_put E G 0 (ci := 9) rfl 1 (C := RX9) (T := TX9) (N := 3) rfl (by decide) mw_fl_9_21 rfl rfl rfl (Nat.le_of_ble_eq_true rfl) dX9_read_7 (fun H locs G => ?_)
  have G : mG D A s H locs [(tr, .inr (9, [.ref tp, .ref dr, .ref t2])), (tp, .inr (7, [.ref bt, .int 0, .int 0, .int 40, .int 0, .int 0, .int 0])), (dr, .inr (8, [.int 0, .int 0, .int 0, .int 0, .ref j0, .ref j1, .ref j2, .ref j3, .ref j4, .ref j5])), (j0, .inl (K 0, 8, .inl (fun _ => 0))), (j4, .inr (6, [.ref s0, .ref s1, .ref s2, .ref s3, .ref s4, .ref s5, .int 0, .int 0]))] := G
  refine lv_aload_n E.1 E.2.1 dX9_read_10 rfl (lv_at hl 0 rfl) ?_
  refine m_get E G 0 (ci := 9) rfl 1 (C := RX9) (T := TX9) (N := 3) rfl (by decide) mw_fl_9_21 (v := .ref dr) rfl dX9_read_11 ?_
  refine m_vv E G hl (k_clear l D K dr j0 j1 j2 j3 j4 j5 s0 s1 s2 s3 s4 s5) (wr := [(tr, .inr (9, [.ref tp, .ref dr, .ref t2])), (tp, .inr (7, [.ref bt, .int 0, .int 0, .int 40, .int 0, .int 0, .int 0]))]) [2, 3, 4] [0, 1] rfl rfl (by decide) (by decide) (by decide) 0 (ci := 8) rfl rfl rfl 0 rfl mw_code_X8_clear mw_ini_8 mw_ml_9_29 mw_inst_X8_clear mw_sel_X8_clear hd_X8_clear ⟨by decide, by decide⟩ rfl (Nat.le_of_ble_eq_true rfl) ⟨by decide, by decide⟩ dX9_read_14 (fun u_1 H locs hp G => ?_)
  have G : mG D A s H locs [(tr, .inr (9, [.ref tp, .ref dr, .ref t2])), (tp, .inr (7, [.ref bt, .int 0, .int 0, .int 40, .int 0, .int 0, .int 0])), (dr, .inr (8, [.int 0, .int 0, .int 0, .int 0, .ref j0, .ref j1, .ref j2, .ref j3, .ref j4, .ref j5])), (j0, .inl (K 0, 8, .inl (u_1.2.1 0))), (j4, .inr (6, [.ref s0, .ref s1, .ref s2, .ref s3, .ref s4, .ref s5, .int 0, .int 0]))] := G
  refine lv_aload_n E.1 E.2.1 dX9_read_17 rfl (lv_at hl 0 rfl) ?_
  refine m_get E G 0 (ci := 9) rfl 0 (C := RX9) (T := TX9) (N := 3) rfl (by decide) mw_fl_9_12 (v := .ref tp) rfl dX9_read_18 ?_
  refine m_vv E G hl (k_rewind l D K tp bt) (wr := [(tr, .inr (9, [.ref tp, .ref dr, .ref t2])), (dr, .inr (8, [.int 0, .int 0, .int 0, .int 0, .ref j0, .ref j1, .ref j2, .ref j3, .ref j4, .ref j5])), (j0, .inl (K 0, 8, .inl (u_1.2.1 0))), (j4, .inr (6, [.ref s0, .ref s1, .ref s2, .ref s3, .ref s4, .ref s5, .int 0, .int 0]))]) [1] [0, 2, 3, 4] rfl rfl (by decide) (by decide) (by decide) 0 (ci := 7) rfl rfl rfl 0 rfl mw_code_X7_rewind mw_ini_7 mw_ml_9_32 mw_inst_X7_rewind mw_sel_X7_rewind hd_X7_rewind ⟨by decide, by decide⟩ rfl (Nat.le_of_ble_eq_true rfl) ⟨by decide, by decide⟩ dX9_read_21 (fun u_3 H locs hp G => ?_)
  have G : mG D A s H locs [(tr, .inr (9, [.ref tp, .ref dr, .ref t2])), (dr, .inr (8, [.int 0, .int 0, .int 0, .int 0, .ref j0, .ref j1, .ref j2, .ref j3, .ref j4, .ref j5])), (j0, .inl (K 0, 8, .inl (u_1.2.1 0))), (j4, .inr (6, [.ref s0, .ref s1, .ref s2, .ref s3, .ref s4, .ref s5, .int 0, .int 0])), (tp, .inr (7, [.ref bt, .int 0, .int 0, .int 40, .int 0, .int 0, .int 0]))] := G
  refine lv_iconst (v := 1) E.1 E.2.1 dX9_read_24 (by decide) ?_
  refine lv_istore_n (lv' := [(3, .int 1), (0, .ref tr), (1, .ref tp), (2, .ref dr)]) E.1 E.2.1 dX9_read_25 rfl hl (by decide) rfl (fun ls hl => ?_)
  refine lv_iconst (v := 0) E.1 E.2.1 dX9_read_26 (by decide) ?_
  refine lv_istore (lv' := [(4, .int 0), (3, .int 1), (0, .ref tr), (1, .ref tp), (2, .ref dr)]) E.1 E.2.1 dX9_read_27 hl (by decide) rfl (fun ls hl => ?_)
  refine lv_iload E.1 E.2.1 dX9_read_29 (lv_at hl 0 rfl) ?_
  refine lv_bipush (v := 40) E.1 E.2.1 dX9_read_31 (by decide) ?_
  refine lv_icmp_gt (tgt := 80) E.1 E.2.1 dX9_read_33 (by decide) (fun h => absurd h (by decide)) (fun _ => ?_)
  refine lv_iload_n E.1 E.2.1 dX9_read_36 rfl (lv_at hl 1 rfl) ?_
  refine lv_if_eq (tgt := 80) E.1 E.2.1 dX9_read_37 (by decide) (fun h => absurd h (by decide)) (fun _ => ?_)
  refine lv_aload_n E.1 E.2.1 dX9_read_40 rfl (lv_at hl 2 rfl) ?_
  refine lv_iload E.1 E.2.1 dX9_read_41 (lv_at hl 0 rfl) ?_
  refine m_vv E G hl (k_readClause l D K tr dr t2 tp bt) (wr := [(dr, .inr (8, [.int 0, .int 0, .int 0, .int 0, .ref j0, .ref j1, .ref j2, .ref j3, .ref j4, .ref j5])), (j0, .inl (K 0, 8, .inl (u_1.2.1 0))), (j4, .inr (6, [.ref s0, .ref s1, .ref s2, .ref s3, .ref s4, .ref s5, .int 0, .int 0]))]) [0, 4] [1, 2, 3] rfl rfl (by decide) (by decide) (by decide) 0 (ci := 9) rfl rfl rfl 1 rfl mw_code_X9_readClause mw_ini_9 mw_ml_9_35 mw_inst_X9_readClause mw_sel_X9_readClause hd_X9_readClause ⟨by decide, by decide⟩ rfl (Nat.le_of_ble_eq_true rfl) ⟨by decide, by decide⟩ dX9_read_43 (fun u_5 H locs hp G => ?_)
  have G : mG D A s H locs [(dr, .inr (8, [.int 0, .int 0, .int 0, .int 0, .ref j0, .ref j1, .ref j2, .ref j3, .ref j4, .ref j5])), (j0, .inl (K 0, 8, .inl (u_1.2.1 0))), (j4, .inr (6, [.ref s0, .ref s1, .ref s2, .ref s3, .ref s4, .ref s5, .int 0, .int 0])), (tr, .inr (9, [.ref tp, .ref dr, .ref t2])), (tp, .inr (7, [.ref bt, .int 0, .int 1, .int 40, .int 0, .int 0, .int 0]))] := G
  refine lv_aload_n E.1 E.2.1 dX9_read_46 rfl (lv_at hl 2 rfl) ?_
  refine m_get E G 3 (ci := 9) rfl 0 (C := RX9) (T := TX9) (N := 3) rfl (by decide) mw_fl_9_12 (v := .ref tp) rfl dX9_read_47 ?_
  refine m_get E G 4 (ci := 7) rfl 2 (C := RX7) (T := TX7) (N := 7) rfl (by decide) mw_fl_9_39 (v := .int 1) rfl dX9_read_50 ?_
  refine lv_if_ne (tgt := 72) E.1 E.2.1 dX9_read_53 (by decide) (fun _ => ?_) (fun h => absurd h (by decide))
  refine lv_iconst (v := 0) E.1 E.2.1 dX9_read_72 (by decide) ?_
  refine lv_istore_n (lv' := [(3, .int 0), (4, .int 0), (0, .ref tr), (1, .ref tp), (2, .ref dr)]) E.1 E.2.1 dX9_read_73 rfl hl (by decide) rfl (fun ls hl => ?_)
  refine lv_iinc (v := 1) (lv' := [(4, .int 1), (3, .int 0), (0, .ref tr), (1, .ref tp), (2, .ref dr)]) E.1 E.2.1 dX9_read_74 hl (k := 1) rfl (by decide) (by decide) rfl (fun ls hl => ?_)
  refine lv_goto (tgt := 29) E.1 E.2.1 dX9_read_77 (by decide) ?_
  refine lv_iload E.1 E.2.1 dX9_read_29 (lv_at hl 0 rfl) ?_
  refine lv_bipush (v := 40) E.1 E.2.1 dX9_read_31 (by decide) ?_
  refine lv_icmp_gt (tgt := 80) E.1 E.2.1 dX9_read_33 (by decide) (fun h => absurd h (by decide)) (fun _ => ?_)
  refine lv_iload_n E.1 E.2.1 dX9_read_36 rfl (lv_at hl 1 rfl) ?_
  refine lv_if_eq (tgt := 80) E.1 E.2.1 dX9_read_37 (by decide) (fun _ => ?_) (fun h => absurd (by decide) h)
  refine lv_aload_n E.1 E.2.1 dX9_read_80 rfl (lv_at hl 2 rfl) ?_
  refine m_get E G 3 (ci := 9) rfl 0 (C := RX9) (T := TX9) (N := 3) rfl (by decide) mw_fl_9_12 (v := .ref tp) rfl dX9_read_81 ?_
  refine m_get E G 4 (ci := 7) rfl 2 (C := RX7) (T := TX7) (N := 7) rfl (by decide) mw_fl_9_39 (v := .int 1) rfl dX9_read_84 ?_
  refine lv_if_ne (tgt := 97) E.1 E.2.1 dX9_read_87 (by decide) (fun _ => ?_) (fun h => absurd h (by decide))
  exact m_retv E G hr (fun _ => 0, fun _ _ => 0, fun _ _ => none) trivial [4] (by decide) rfl (by decide) (by decide) dX9_read_97
