theorem mw_ao_6 : (Cond.arrayOver (.object "LureTown$State") : Cond) ∈ cw := cw_of (List.mem_append_right _ (List.mem_append_right _ (List.mem_append_left _ (List.mem_of_getElem? (i := 80) (by decide +kernel))))) (by decide +kernel)
theorem mw_cl_0_18 : (Cond.classLink RX0 18 RX6 : Cond) ∈ cw := cw_of (List.mem_append_right _ (List.mem_append_right _ (List.mem_append_left _ (List.mem_of_getElem? (i := 79) (by decide +kernel))))) (by decide +kernel)
theorem mw_fl_0_15 : (Cond.fieldLink RX0 15 "LureTown$Acts" "next" "I" : Cond) ∈ cw := cw_of (List.mem_append_right _ (List.mem_append_right _ (List.mem_append_left _ (List.mem_of_getElem? (i := 84) (by decide +kernel))))) (by decide +kernel)
theorem mw_fl_0_20 : (Cond.fieldLink RX0 20 "LureTown$Acts" "before" "[LLureTown$State;" : Cond) ∈ cw := cw_of (List.mem_append_right _ (List.mem_append_right _ (List.mem_append_left _ (List.mem_of_getElem? (i := 85) (by decide +kernel))))) (by decide +kernel)
theorem mw_fl_0_9 : (Cond.fieldLink RX0 9 "LureTown$Acts" "size" "I" : Cond) ∈ cw := cw_of (List.mem_append_right _ (List.mem_append_right _ (List.mem_append_left _ (List.mem_of_getElem? (i := 82) (by decide +kernel))))) (by decide +kernel)
theorem mw_ml_0_3 : (Cond.methodLink RX0 3 Lib.objectInit : Cond) ∈ cw := cw_of (List.mem_append_right _ (List.mem_append_right _ (List.mem_append_left _ (List.mem_of_getElem? (i := 78) (by decide +kernel))))) (by decide +kernel)
theorem mw_mn_0_24 : (Cond.methodLinkNest RX0 24 yX6_init "LureTown" : Cond) ∈ cw := cw_of (List.mem_append_right _ (List.mem_append_right _ (List.mem_append_left _ (List.mem_of_getElem? (i := 81) (by decide +kernel))))) (by decide +kernel)
theorem dX0_init_0 : decode cX0_init 0 = .ok (.aload_n 0, 1) := by decide +kernel
theorem dX0_init_1 : decode cX0_init 1 = .ok (.invokespecial 3, 3) := by decide +kernel
theorem dX0_init_4 : decode cX0_init 4 = .ok (.aload_n 0, 1) := by decide +kernel
theorem dX0_init_5 : decode cX0_init 5 = .ok (.iconst 0, 1) := by decide +kernel
theorem dX0_init_6 : decode cX0_init 6 = .ok (.putfield 9, 3) := by decide +kernel
theorem dX0_init_9 : decode cX0_init 9 = .ok (.aload_n 0, 1) := by decide +kernel
theorem dX0_init_10 : decode cX0_init 10 = .ok (.iconst 0, 1) := by decide +kernel
theorem dX0_init_11 : decode cX0_init 11 = .ok (.putfield 15, 3) := by decide +kernel
theorem dX0_init_14 : decode cX0_init 14 = .ok (.aload_n 0, 1) := by decide +kernel
theorem dX0_init_15 : decode cX0_init 15 = .ok (.bipush 20, 2) := by decide +kernel
theorem dX0_init_17 : decode cX0_init 17 = .ok (.anewarray 18, 3) := by decide +kernel
theorem dX0_init_20 : decode cX0_init 20 = .ok (.putfield 20, 3) := by decide +kernel
theorem dX0_init_23 : decode cX0_init 23 = .ok (.iconst 0, 1) := by decide +kernel
theorem dX0_init_24 : decode cX0_init 24 = .ok (.istore_n 1, 1) := by decide +kernel
theorem dX0_init_25 : decode cX0_init 25 = .ok (.iload_n 1, 1) := by decide +kernel
theorem dX0_init_26 : decode cX0_init 26 = .ok (.bipush 20, 2) := by decide +kernel
theorem dX0_init_28 : decode cX0_init 28 = .ok (.if_icmp .ge 22, 3) := by decide +kernel
theorem dX0_init_31 : decode cX0_init 31 = .ok (.aload_n 0, 1) := by decide +kernel
theorem dX0_init_32 : decode cX0_init 32 = .ok (.getfield 20, 3) := by decide +kernel
theorem dX0_init_35 : decode cX0_init 35 = .ok (.iload_n 1, 1) := by decide +kernel
theorem dX0_init_36 : decode cX0_init 36 = .ok (.new 18, 3) := by decide +kernel
theorem dX0_init_39 : decode cX0_init 39 = .ok (.dup, 1) := by decide +kernel
theorem dX0_init_40 : decode cX0_init 40 = .ok (.invokespecial 24, 3) := by decide +kernel
theorem dX0_init_43 : decode cX0_init 43 = .ok (.aastore, 1) := by decide +kernel
theorem dX0_init_44 : decode cX0_init 44 = .ok (.iinc 1 1, 3) := by decide +kernel
theorem dX0_init_47 : decode cX0_init 47 = .ok (.goto (-22), 3) := by decide +kernel
theorem dX0_init_50 : decode cX0_init 50 = .ok (.return_, 1) := by decide +kernel
set_option maxHeartbeats 4000000 in
set_option maxRecDepth 100000 in
/-- Acts() -/
theorem c_Acts_init (l : Launch) (D : va_G) (K : Nat → ClassId) (h0 : Nat) : mV (S := mU) l yX0_init cX0_init 2 ({ frames := 2, cells := 141, slots := 820, locals := 40 }) D K [(h0, .inr (0, [.int 0, .int 0, .null]))] [.ref h0] (fun u => True) (fun u => [(h0, .inr (0, [.int 0, .int 0, .ref (u.1 0)]))]) := by
  refine m_enterV (by decide) (Nat.le_of_ble_eq_true rfl) ?_
  intro p e s m args below meth c A ls E hr hN G hl
  have E : mE p s m meth c cX0_init args 2 RX0 D K A := E
  have hl : lv_has ls 2 [(0, .ref h0)] := hl
  obtain ⟨H, hH⟩ : ∃ H, H = s.heap := ⟨_, rfl⟩
  obtain ⟨locs, hlo⟩ : ∃ L : List Loc, L = [] := ⟨_, rfl⟩
  rw [← hH, ← hlo] at G
  rw [← hH, ← hlo]
  have G : mG D A s H locs [(h0, .inr (0, [.int 0, .int 0, .null]))] := G
  clear hH hlo
  refine lv_aload_n E.1 E.2.1 dX0_init_0 rfl (lv_at hl 0 rfl) ?_
  refine m_objInit E hl mw_ml_0_3 dX0_init_1 (by decide) (Nat.le_of_ble_eq_true rfl) (by decide) ?_
  refine lv_aload_n E.1 E.2.1 dX0_init_4 rfl (lv_at hl 0 rfl) ?_
  refine lv_iconst (v := 0) E.1 E.2.1 dX0_init_5 (by decide) ?_
  refine m_put E G 0 (ci := 0) rfl 0 (C := RX0) (T := TX0) (N := 3) rfl (by decide) mw_fl_0_9 rfl rfl rfl (Nat.le_of_ble_eq_true rfl) dX0_init_6 (fun H locs G => ?_)
  have G : mG D A s H locs [(h0, .inr (0, [.int 0, .int 0, .null]))] := G
  refine lv_aload_n E.1 E.2.1 dX0_init_9 rfl (lv_at hl 0 rfl) ?_
  refine lv_iconst (v := 0) E.1 E.2.1 dX0_init_10 (by decide) ?_
  refine m_put E G 0 (ci := 0) rfl 1 (C := RX0) (T := TX0) (N := 3) rfl (by decide) mw_fl_0_15 rfl rfl rfl (Nat.le_of_ble_eq_true rfl) dX0_init_11 (fun H locs G => ?_)
  have G : mG D A s H locs [(h0, .inr (0, [.int 0, .int 0, .null]))] := G
  refine lv_aload_n E.1 E.2.1 dX0_init_14 rfl (lv_at hl 0 rfl) ?_
  refine lv_bipush (v := 20) E.1 E.2.1 dX0_init_15 (by decide) ?_
  refine m_newq E G 6 rfl mw_ao_6 mw_cl_0_18 (N' := 20) (by decide) (by decide) (by decide) (by decide) (by decide) dX0_init_17 (fun q_1 H G => ?_)
  have G : mG D A s H locs [(h0, .inr (0, [.int 0, .int 0, .null])), (q_1, .inl (K 6, 20, .inr (.inr (.inr (.inr (fun _ => none))))))] := G
  refine m_putF E G hN 0 (ci := 0) rfl 2 (C := RX0) (T := TX0) (N := 3) rfl (by decide) mw_fl_0_20 rfl rfl rfl rfl (Nat.le_of_ble_eq_true rfl) dX0_init_20 (fun H locs G => ?_)
  have G : mG D A s H locs [(h0, .inr (0, [.int 0, .int 0, .ref q_1])), (q_1, .inl (K 6, 20, .inr (.inr (.inr (.inr (fun _ => none))))))] := G
  refine lv_iconst (v := 0) E.1 E.2.1 dX0_init_23 (by decide) ?_
  refine lv_istore_n (lv' := [(1, .int 0), (0, .ref h0)]) E.1 E.2.1 dX0_init_24 rfl hl (by decide) rfl (fun ls hl => ?_)
  refine lv_iload_n E.1 E.2.1 dX0_init_25 rfl (lv_at hl 0 rfl) ?_
  refine lv_bipush (v := 20) E.1 E.2.1 dX0_init_26 (by decide) ?_
  refine lv_icmp_ge (tgt := 50) E.1 E.2.1 dX0_init_28 (by decide) (fun h => absurd h (by decide)) (fun _ => ?_)
  refine lv_aload_n E.1 E.2.1 dX0_init_31 rfl (lv_at hl 1 rfl) ?_
  refine m_get E G 0 (ci := 0) rfl 2 (C := RX0) (T := TX0) (N := 3) rfl (by decide) mw_fl_0_20 (v := .ref q_1) rfl dX0_init_32 ?_
  refine lv_iload_n E.1 E.2.1 dX0_init_35 rfl (lv_at hl 0 rfl) ?_
  refine m_new E G 6 (C := RX6) (T := TX6) (N := 8) rfl fr_X6 mw_cl_0_18 mw_insta_6 mw_ini_6 (by decide) (by decide) dX0_init_36 (fun q_2 H G => ?_)
  have G : mG D A s H locs [(h0, .inr (0, [.int 0, .int 0, .ref q_1])), (q_1, .inl (K 6, 20, .inr (.inr (.inr (.inr (fun _ => none)))))), (q_2, .inr (6, [.null, .null, .null, .null, .null, .null, .int 0, .int 0]))] := G
  refine lv_dup E.1 E.2.1 dX0_init_39 rfl ?_
  refine m_in E G hl (c_State_init l D K q_2) (wr := [(h0, .inr (0, [.int 0, .int 0, .ref q_1])), (q_1, .inl (K 6, 20, .inr (.inr (.inr (.inr (fun _ => none))))))]) [2] [0, 1] rfl rfl (by decide) (by decide) (by decide) 0 rfl rfl mw_code_X6_init mw_ini_6 mw_mn_0_24 mw_inst_X6_init hd_X6_init ⟨by decide, by decide⟩ rfl (Nat.le_of_ble_eq_true rfl) ⟨by decide, by decide⟩ dX0_init_40 (fun u_3 H locs hp G => ?_)
  have G : mG D A s H locs [(h0, .inr (0, [.int 0, .int 0, .ref q_1])), (q_1, .inl (K 6, 20, .inr (.inr (.inr (.inr (fun _ => none)))))), (q_2, .inr (6, [.ref (u_3.1 0), .ref (u_3.1 1), .ref (u_3.1 2), .ref (u_3.1 3), .ref (u_3.1 4), .ref (u_3.1 5), .int 0, .int 0])), ((u_3.1 0), .inl (K 0, 5, .inl (fun _ => 0))), ((u_3.1 1), .inl (K 0, 5, .inl (fun _ => 0))), ((u_3.1 2), .inl (K 0, 5, .inl (fun _ => 0))), ((u_3.1 3), .inl (K 0, 5, .inl (fun _ => 0))), ((u_3.1 4), .inl (K 0, 6, .inl (fun _ => 0))), ((u_3.1 5), .inl (K 0, 6, .inl (fun _ => 0)))] := G
  have G : mG D A s H locs [(h0, .inr (0, [.int 0, .int 0, .ref q_1])), (q_1, .inl (K 6, 20, .inr (.inr (.inr (.inr (fun _ => none)))))), (q_2, .inr (6, [.ref (u_3.1 0), .ref (u_3.1 1), .ref (u_3.1 2), .ref (u_3.1 3), .ref (u_3.1 4), .ref (u_3.1 5), .int 0, .int 0]))] := G.sub [0, 1, 2] (by decide) rfl
  refine m_aast E G 1 6 2 (ci := 6) (r := (RX6, TX6, 8)) rfl rfl rfl rfl (by unfold vp_in; decide) dX0_init_43 (fun H locs G => ?_)
  have G : mG D A s H locs [(h0, .inr (0, [.int 0, .int 0, .ref q_1])), (q_1, .inl (K 6, 20, .inr (.inr (.inr (.inr (va_up (fun _ => none) 0 (some q_2))))))), (q_2, .inr (6, [.ref (u_3.1 0), .ref (u_3.1 1), .ref (u_3.1 2), .ref (u_3.1 3), .ref (u_3.1 4), .ref (u_3.1 5), .int 0, .int 0]))] := G
  obtain ⟨f_5, ef_5⟩ : ∃ f_5 : Nat → Option Nat, f_5 = (va_up (fun _ => none) 0 (some q_2)) := ⟨_, rfl⟩
  have G : mG D A s H locs [(h0, .inr (0, [.int 0, .int 0, .ref q_1])), (q_1, .inl (K 6, 20, .inr (.inr (.inr (.inr f_5))))), (q_2, .inr (6, [.ref (u_3.1 0), .ref (u_3.1 1), .ref (u_3.1 2), .ref (u_3.1 3), .ref (u_3.1 4), .ref (u_3.1 5), .int 0, .int 0]))] := by subst ef_5; exact G
  clear ef_5
  have G : mG D A s H locs [(h0, .inr (0, [.int 0, .int 0, .ref q_1])), (q_1, .inl (K 6, 20, .inr (.inr (.inr (.inr f_5)))))] := G.sub [0, 1] (by decide) rfl
  refine lv_iinc (v := 1) (lv' := [(1, .int 1), (0, .ref h0)]) E.1 E.2.1 dX0_init_44 hl (k := 0) rfl (by decide) (by decide) rfl (fun ls hl => ?_)
  refine lv_goto (tgt := 25) E.1 E.2.1 dX0_init_47 (by decide) ?_
  refine lv_iload_n E.1 E.2.1 dX0_init_25 rfl (lv_at hl 0 rfl) ?_
  refine lv_bipush (v := 20) E.1 E.2.1 dX0_init_26 (by decide) ?_
  refine lv_icmp_ge (tgt := 50) E.1 E.2.1 dX0_init_28 (by decide) (fun h => absurd h (by decide)) (fun _ => ?_)
  refine lv_aload_n E.1 E.2.1 dX0_init_31 rfl (lv_at hl 1 rfl) ?_
  refine m_get E G 0 (ci := 0) rfl 2 (C := RX0) (T := TX0) (N := 3) rfl (by decide) mw_fl_0_20 (v := .ref q_1) rfl dX0_init_32 ?_
  refine lv_iload_n E.1 E.2.1 dX0_init_35 rfl (lv_at hl 0 rfl) ?_
  refine m_new E G 6 (C := RX6) (T := TX6) (N := 8) rfl fr_X6 mw_cl_0_18 mw_insta_6 mw_ini_6 (by decide) (by decide) dX0_init_36 (fun q_6 H G => ?_)
  have G : mG D A s H locs [(h0, .inr (0, [.int 0, .int 0, .ref q_1])), (q_1, .inl (K 6, 20, .inr (.inr (.inr (.inr f_5))))), (q_6, .inr (6, [.null, .null, .null, .null, .null, .null, .int 0, .int 0]))] := G
  refine lv_dup E.1 E.2.1 dX0_init_39 rfl ?_
  refine m_in E G hl (c_State_init l D K q_6) (wr := [(h0, .inr (0, [.int 0, .int 0, .ref q_1])), (q_1, .inl (K 6, 20, .inr (.inr (.inr (.inr f_5)))))]) [2] [0, 1] rfl rfl (by decide) (by decide) (by decide) 0 rfl rfl mw_code_X6_init mw_ini_6 mw_mn_0_24 mw_inst_X6_init hd_X6_init ⟨by decide, by decide⟩ rfl (Nat.le_of_ble_eq_true rfl) ⟨by decide, by decide⟩ dX0_init_40 (fun u_7 H locs hp G => ?_)
  have G : mG D A s H locs [(h0, .inr (0, [.int 0, .int 0, .ref q_1])), (q_1, .inl (K 6, 20, .inr (.inr (.inr (.inr f_5))))), (q_6, .inr (6, [.ref (u_7.1 0), .ref (u_7.1 1), .ref (u_7.1 2), .ref (u_7.1 3), .ref (u_7.1 4), .ref (u_7.1 5), .int 0, .int 0])), ((u_7.1 0), .inl (K 0, 5, .inl (fun _ => 0))), ((u_7.1 1), .inl (K 0, 5, .inl (fun _ => 0))), ((u_7.1 2), .inl (K 0, 5, .inl (fun _ => 0))), ((u_7.1 3), .inl (K 0, 5, .inl (fun _ => 0))), ((u_7.1 4), .inl (K 0, 6, .inl (fun _ => 0))), ((u_7.1 5), .inl (K 0, 6, .inl (fun _ => 0)))] := G
  have G : mG D A s H locs [(h0, .inr (0, [.int 0, .int 0, .ref q_1])), (q_1, .inl (K 6, 20, .inr (.inr (.inr (.inr f_5))))), (q_6, .inr (6, [.ref (u_7.1 0), .ref (u_7.1 1), .ref (u_7.1 2), .ref (u_7.1 3), .ref (u_7.1 4), .ref (u_7.1 5), .int 0, .int 0]))] := G.sub [0, 1, 2] (by decide) rfl
  refine m_aast E G 1 6 2 (ci := 6) (r := (RX6, TX6, 8)) rfl rfl rfl rfl (by unfold vp_in; decide) dX0_init_43 (fun H locs G => ?_)
  have G : mG D A s H locs [(h0, .inr (0, [.int 0, .int 0, .ref q_1])), (q_1, .inl (K 6, 20, .inr (.inr (.inr (.inr (va_up f_5 1 (some q_6))))))), (q_6, .inr (6, [.ref (u_7.1 0), .ref (u_7.1 1), .ref (u_7.1 2), .ref (u_7.1 3), .ref (u_7.1 4), .ref (u_7.1 5), .int 0, .int 0]))] := G
  obtain ⟨f_9, ef_9⟩ : ∃ f_9 : Nat → Option Nat, f_9 = (va_up f_5 1 (some q_6)) := ⟨_, rfl⟩
  have G : mG D A s H locs [(h0, .inr (0, [.int 0, .int 0, .ref q_1])), (q_1, .inl (K 6, 20, .inr (.inr (.inr (.inr f_9))))), (q_6, .inr (6, [.ref (u_7.1 0), .ref (u_7.1 1), .ref (u_7.1 2), .ref (u_7.1 3), .ref (u_7.1 4), .ref (u_7.1 5), .int 0, .int 0]))] := by subst ef_9; exact G
  clear ef_9
  have G : mG D A s H locs [(h0, .inr (0, [.int 0, .int 0, .ref q_1])), (q_1, .inl (K 6, 20, .inr (.inr (.inr (.inr f_9)))))] := G.sub [0, 1] (by decide) rfl
  refine lv_iinc (v := 2) (lv' := [(1, .int 2), (0, .ref h0)]) E.1 E.2.1 dX0_init_44 hl (k := 0) rfl (by decide) (by decide) rfl (fun ls hl => ?_)
  refine lv_goto (tgt := 25) E.1 E.2.1 dX0_init_47 (by decide) ?_
  refine lv_iload_n E.1 E.2.1 dX0_init_25 rfl (lv_at hl 0 rfl) ?_
  refine lv_bipush (v := 20) E.1 E.2.1 dX0_init_26 (by decide) ?_
  refine lv_icmp_ge (tgt := 50) E.1 E.2.1 dX0_init_28 (by decide) (fun h => absurd h (by decide)) (fun _ => ?_)
  refine lv_aload_n E.1 E.2.1 dX0_init_31 rfl (lv_at hl 1 rfl) ?_
  refine m_get E G 0 (ci := 0) rfl 2 (C := RX0) (T := TX0) (N := 3) rfl (by decide) mw_fl_0_20 (v := .ref q_1) rfl dX0_init_32 ?_
  refine lv_iload_n E.1 E.2.1 dX0_init_35 rfl (lv_at hl 0 rfl) ?_
  refine m_new E G 6 (C := RX6) (T := TX6) (N := 8) rfl fr_X6 mw_cl_0_18 mw_insta_6 mw_ini_6 (by decide) (by decide) dX0_init_36 (fun q_10 H G => ?_)
  have G : mG D A s H locs [(h0, .inr (0, [.int 0, .int 0, .ref q_1])), (q_1, .inl (K 6, 20, .inr (.inr (.inr (.inr f_9))))), (q_10, .inr (6, [.null, .null, .null, .null, .null, .null, .int 0, .int 0]))] := G
  refine lv_dup E.1 E.2.1 dX0_init_39 rfl ?_
  refine m_in E G hl (c_State_init l D K q_10) (wr := [(h0, .inr (0, [.int 0, .int 0, .ref q_1])), (q_1, .inl (K 6, 20, .inr (.inr (.inr (.inr f_9)))))]) [2] [0, 1] rfl rfl (by decide) (by decide) (by decide) 0 rfl rfl mw_code_X6_init mw_ini_6 mw_mn_0_24 mw_inst_X6_init hd_X6_init ⟨by decide, by decide⟩ rfl (Nat.le_of_ble_eq_true rfl) ⟨by decide, by decide⟩ dX0_init_40 (fun u_11 H locs hp G => ?_)
  have G : mG D A s H locs [(h0, .inr (0, [.int 0, .int 0, .ref q_1])), (q_1, .inl (K 6, 20, .inr (.inr (.inr (.inr f_9))))), (q_10, .inr (6, [.ref (u_11.1 0), .ref (u_11.1 1), .ref (u_11.1 2), .ref (u_11.1 3), .ref (u_11.1 4), .ref (u_11.1 5), .int 0, .int 0])), ((u_11.1 0), .inl (K 0, 5, .inl (fun _ => 0))), ((u_11.1 1), .inl (K 0, 5, .inl (fun _ => 0))), ((u_11.1 2), .inl (K 0, 5, .inl (fun _ => 0))), ((u_11.1 3), .inl (K 0, 5, .inl (fun _ => 0))), ((u_11.1 4), .inl (K 0, 6, .inl (fun _ => 0))), ((u_11.1 5), .inl (K 0, 6, .inl (fun _ => 0)))] := G
  have G : mG D A s H locs [(h0, .inr (0, [.int 0, .int 0, .ref q_1])), (q_1, .inl (K 6, 20, .inr (.inr (.inr (.inr f_9))))), (q_10, .inr (6, [.ref (u_11.1 0), .ref (u_11.1 1), .ref (u_11.1 2), .ref (u_11.1 3), .ref (u_11.1 4), .ref (u_11.1 5), .int 0, .int 0]))] := G.sub [0, 1, 2] (by decide) rfl
  refine m_aast E G 1 6 2 (ci := 6) (r := (RX6, TX6, 8)) rfl rfl rfl rfl (by unfold vp_in; decide) dX0_init_43 (fun H locs G => ?_)
  have G : mG D A s H locs [(h0, .inr (0, [.int 0, .int 0, .ref q_1])), (q_1, .inl (K 6, 20, .inr (.inr (.inr (.inr (va_up f_9 2 (some q_10))))))), (q_10, .inr (6, [.ref (u_11.1 0), .ref (u_11.1 1), .ref (u_11.1 2), .ref (u_11.1 3), .ref (u_11.1 4), .ref (u_11.1 5), .int 0, .int 0]))] := G
  obtain ⟨f_13, ef_13⟩ : ∃ f_13 : Nat → Option Nat, f_13 = (va_up f_9 2 (some q_10)) := ⟨_, rfl⟩
  have G : mG D A s H locs [(h0, .inr (0, [.int 0, .int 0, .ref q_1])), (q_1, .inl (K 6, 20, .inr (.inr (.inr (.inr f_13))))), (q_10, .inr (6, [.ref (u_11.1 0), .ref (u_11.1 1), .ref (u_11.1 2), .ref (u_11.1 3), .ref (u_11.1 4), .ref (u_11.1 5), .int 0, .int 0]))] := by subst ef_13; exact G
  clear ef_13
  have G : mG D A s H locs [(h0, .inr (0, [.int 0, .int 0, .ref q_1])), (q_1, .inl (K 6, 20, .inr (.inr (.inr (.inr f_13)))))] := G.sub [0, 1] (by decide) rfl
  refine lv_iinc (v := 3) (lv' := [(1, .int 3), (0, .ref h0)]) E.1 E.2.1 dX0_init_44 hl (k := 0) rfl (by decide) (by decide) rfl (fun ls hl => ?_)
  refine lv_goto (tgt := 25) E.1 E.2.1 dX0_init_47 (by decide) ?_
  refine lv_iload_n E.1 E.2.1 dX0_init_25 rfl (lv_at hl 0 rfl) ?_
  refine lv_bipush (v := 20) E.1 E.2.1 dX0_init_26 (by decide) ?_
  refine lv_icmp_ge (tgt := 50) E.1 E.2.1 dX0_init_28 (by decide) (fun h => absurd h (by decide)) (fun _ => ?_)
  refine lv_aload_n E.1 E.2.1 dX0_init_31 rfl (lv_at hl 1 rfl) ?_
  refine m_get E G 0 (ci := 0) rfl 2 (C := RX0) (T := TX0) (N := 3) rfl (by decide) mw_fl_0_20 (v := .ref q_1) rfl dX0_init_32 ?_
  refine lv_iload_n E.1 E.2.1 dX0_init_35 rfl (lv_at hl 0 rfl) ?_
  refine m_new E G 6 (C := RX6) (T := TX6) (N := 8) rfl fr_X6 mw_cl_0_18 mw_insta_6 mw_ini_6 (by decide) (by decide) dX0_init_36 (fun q_14 H G => ?_)
  have G : mG D A s H locs [(h0, .inr (0, [.int 0, .int 0, .ref q_1])), (q_1, .inl (K 6, 20, .inr (.inr (.inr (.inr f_13))))), (q_14, .inr (6, [.null, .null, .null, .null, .null, .null, .int 0, .int 0]))] := G
  refine lv_dup E.1 E.2.1 dX0_init_39 rfl ?_
  refine m_in E G hl (c_State_init l D K q_14) (wr := [(h0, .inr (0, [.int 0, .int 0, .ref q_1])), (q_1, .inl (K 6, 20, .inr (.inr (.inr (.inr f_13)))))]) [2] [0, 1] rfl rfl (by decide) (by decide) (by decide) 0 rfl rfl mw_code_X6_init mw_ini_6 mw_mn_0_24 mw_inst_X6_init hd_X6_init ⟨by decide, by decide⟩ rfl (Nat.le_of_ble_eq_true rfl) ⟨by decide, by decide⟩ dX0_init_40 (fun u_15 H locs hp G => ?_)
  have G : mG D A s H locs [(h0, .inr (0, [.int 0, .int 0, .ref q_1])), (q_1, .inl (K 6, 20, .inr (.inr (.inr (.inr f_13))))), (q_14, .inr (6, [.ref (u_15.1 0), .ref (u_15.1 1), .ref (u_15.1 2), .ref (u_15.1 3), .ref (u_15.1 4), .ref (u_15.1 5), .int 0, .int 0])), ((u_15.1 0), .inl (K 0, 5, .inl (fun _ => 0))), ((u_15.1 1), .inl (K 0, 5, .inl (fun _ => 0))), ((u_15.1 2), .inl (K 0, 5, .inl (fun _ => 0))), ((u_15.1 3), .inl (K 0, 5, .inl (fun _ => 0))), ((u_15.1 4), .inl (K 0, 6, .inl (fun _ => 0))), ((u_15.1 5), .inl (K 0, 6, .inl (fun _ => 0)))] := G
  have G : mG D A s H locs [(h0, .inr (0, [.int 0, .int 0, .ref q_1])), (q_1, .inl (K 6, 20, .inr (.inr (.inr (.inr f_13))))), (q_14, .inr (6, [.ref (u_15.1 0), .ref (u_15.1 1), .ref (u_15.1 2), .ref (u_15.1 3), .ref (u_15.1 4), .ref (u_15.1 5), .int 0, .int 0]))] := G.sub [0, 1, 2] (by decide) rfl
  refine m_aast E G 1 6 2 (ci := 6) (r := (RX6, TX6, 8)) rfl rfl rfl rfl (by unfold vp_in; decide) dX0_init_43 (fun H locs G => ?_)
  have G : mG D A s H locs [(h0, .inr (0, [.int 0, .int 0, .ref q_1])), (q_1, .inl (K 6, 20, .inr (.inr (.inr (.inr (va_up f_13 3 (some q_14))))))), (q_14, .inr (6, [.ref (u_15.1 0), .ref (u_15.1 1), .ref (u_15.1 2), .ref (u_15.1 3), .ref (u_15.1 4), .ref (u_15.1 5), .int 0, .int 0]))] := G
  obtain ⟨f_17, ef_17⟩ : ∃ f_17 : Nat → Option Nat, f_17 = (va_up f_13 3 (some q_14)) := ⟨_, rfl⟩
  have G : mG D A s H locs [(h0, .inr (0, [.int 0, .int 0, .ref q_1])), (q_1, .inl (K 6, 20, .inr (.inr (.inr (.inr f_17))))), (q_14, .inr (6, [.ref (u_15.1 0), .ref (u_15.1 1), .ref (u_15.1 2), .ref (u_15.1 3), .ref (u_15.1 4), .ref (u_15.1 5), .int 0, .int 0]))] := by subst ef_17; exact G
  clear ef_17
  have G : mG D A s H locs [(h0, .inr (0, [.int 0, .int 0, .ref q_1])), (q_1, .inl (K 6, 20, .inr (.inr (.inr (.inr f_17)))))] := G.sub [0, 1] (by decide) rfl
  refine lv_iinc (v := 4) (lv' := [(1, .int 4), (0, .ref h0)]) E.1 E.2.1 dX0_init_44 hl (k := 0) rfl (by decide) (by decide) rfl (fun ls hl => ?_)
  refine lv_goto (tgt := 25) E.1 E.2.1 dX0_init_47 (by decide) ?_
  refine lv_iload_n E.1 E.2.1 dX0_init_25 rfl (lv_at hl 0 rfl) ?_
  refine lv_bipush (v := 20) E.1 E.2.1 dX0_init_26 (by decide) ?_
  refine lv_icmp_ge (tgt := 50) E.1 E.2.1 dX0_init_28 (by decide) (fun h => absurd h (by decide)) (fun _ => ?_)
  refine lv_aload_n E.1 E.2.1 dX0_init_31 rfl (lv_at hl 1 rfl) ?_
  refine m_get E G 0 (ci := 0) rfl 2 (C := RX0) (T := TX0) (N := 3) rfl (by decide) mw_fl_0_20 (v := .ref q_1) rfl dX0_init_32 ?_
  refine lv_iload_n E.1 E.2.1 dX0_init_35 rfl (lv_at hl 0 rfl) ?_
  refine m_new E G 6 (C := RX6) (T := TX6) (N := 8) rfl fr_X6 mw_cl_0_18 mw_insta_6 mw_ini_6 (by decide) (by decide) dX0_init_36 (fun q_18 H G => ?_)
  have G : mG D A s H locs [(h0, .inr (0, [.int 0, .int 0, .ref q_1])), (q_1, .inl (K 6, 20, .inr (.inr (.inr (.inr f_17))))), (q_18, .inr (6, [.null, .null, .null, .null, .null, .null, .int 0, .int 0]))] := G
  refine lv_dup E.1 E.2.1 dX0_init_39 rfl ?_
  refine m_in E G hl (c_State_init l D K q_18) (wr := [(h0, .inr (0, [.int 0, .int 0, .ref q_1])), (q_1, .inl (K 6, 20, .inr (.inr (.inr (.inr f_17)))))]) [2] [0, 1] rfl rfl (by decide) (by decide) (by decide) 0 rfl rfl mw_code_X6_init mw_ini_6 mw_mn_0_24 mw_inst_X6_init hd_X6_init ⟨by decide, by decide⟩ rfl (Nat.le_of_ble_eq_true rfl) ⟨by decide, by decide⟩ dX0_init_40 (fun u_19 H locs hp G => ?_)
  have G : mG D A s H locs [(h0, .inr (0, [.int 0, .int 0, .ref q_1])), (q_1, .inl (K 6, 20, .inr (.inr (.inr (.inr f_17))))), (q_18, .inr (6, [.ref (u_19.1 0), .ref (u_19.1 1), .ref (u_19.1 2), .ref (u_19.1 3), .ref (u_19.1 4), .ref (u_19.1 5), .int 0, .int 0])), ((u_19.1 0), .inl (K 0, 5, .inl (fun _ => 0))), ((u_19.1 1), .inl (K 0, 5, .inl (fun _ => 0))), ((u_19.1 2), .inl (K 0, 5, .inl (fun _ => 0))), ((u_19.1 3), .inl (K 0, 5, .inl (fun _ => 0))), ((u_19.1 4), .inl (K 0, 6, .inl (fun _ => 0))), ((u_19.1 5), .inl (K 0, 6, .inl (fun _ => 0)))] := G
  have G : mG D A s H locs [(h0, .inr (0, [.int 0, .int 0, .ref q_1])), (q_1, .inl (K 6, 20, .inr (.inr (.inr (.inr f_17))))), (q_18, .inr (6, [.ref (u_19.1 0), .ref (u_19.1 1), .ref (u_19.1 2), .ref (u_19.1 3), .ref (u_19.1 4), .ref (u_19.1 5), .int 0, .int 0]))] := G.sub [0, 1, 2] (by decide) rfl
  refine m_aast E G 1 6 2 (ci := 6) (r := (RX6, TX6, 8)) rfl rfl rfl rfl (by unfold vp_in; decide) dX0_init_43 (fun H locs G => ?_)
  have G : mG D A s H locs [(h0, .inr (0, [.int 0, .int 0, .ref q_1])), (q_1, .inl (K 6, 20, .inr (.inr (.inr (.inr (va_up f_17 4 (some q_18))))))), (q_18, .inr (6, [.ref (u_19.1 0), .ref (u_19.1 1), .ref (u_19.1 2), .ref (u_19.1 3), .ref (u_19.1 4), .ref (u_19.1 5), .int 0, .int 0]))] := G
  obtain ⟨f_21, ef_21⟩ : ∃ f_21 : Nat → Option Nat, f_21 = (va_up f_17 4 (some q_18)) := ⟨_, rfl⟩
  have G : mG D A s H locs [(h0, .inr (0, [.int 0, .int 0, .ref q_1])), (q_1, .inl (K 6, 20, .inr (.inr (.inr (.inr f_21))))), (q_18, .inr (6, [.ref (u_19.1 0), .ref (u_19.1 1), .ref (u_19.1 2), .ref (u_19.1 3), .ref (u_19.1 4), .ref (u_19.1 5), .int 0, .int 0]))] := by subst ef_21; exact G
  clear ef_21
  have G : mG D A s H locs [(h0, .inr (0, [.int 0, .int 0, .ref q_1])), (q_1, .inl (K 6, 20, .inr (.inr (.inr (.inr f_21)))))] := G.sub [0, 1] (by decide) rfl
  refine lv_iinc (v := 5) (lv' := [(1, .int 5), (0, .ref h0)]) E.1 E.2.1 dX0_init_44 hl (k := 0) rfl (by decide) (by decide) rfl (fun ls hl => ?_)
  refine lv_goto (tgt := 25) E.1 E.2.1 dX0_init_47 (by decide) ?_
  refine lv_iload_n E.1 E.2.1 dX0_init_25 rfl (lv_at hl 0 rfl) ?_
  refine lv_bipush (v := 20) E.1 E.2.1 dX0_init_26 (by decide) ?_
  refine lv_icmp_ge (tgt := 50) E.1 E.2.1 dX0_init_28 (by decide) (fun h => absurd h (by decide)) (fun _ => ?_)
  refine lv_aload_n E.1 E.2.1 dX0_init_31 rfl (lv_at hl 1 rfl) ?_
  refine m_get E G 0 (ci := 0) rfl 2 (C := RX0) (T := TX0) (N := 3) rfl (by decide) mw_fl_0_20 (v := .ref q_1) rfl dX0_init_32 ?_
  refine lv_iload_n E.1 E.2.1 dX0_init_35 rfl (lv_at hl 0 rfl) ?_
  refine m_new E G 6 (C := RX6) (T := TX6) (N := 8) rfl fr_X6 mw_cl_0_18 mw_insta_6 mw_ini_6 (by decide) (by decide) dX0_init_36 (fun q_22 H G => ?_)
  have G : mG D A s H locs [(h0, .inr (0, [.int 0, .int 0, .ref q_1])), (q_1, .inl (K 6, 20, .inr (.inr (.inr (.inr f_21))))), (q_22, .inr (6, [.null, .null, .null, .null, .null, .null, .int 0, .int 0]))] := G
  refine lv_dup E.1 E.2.1 dX0_init_39 rfl ?_
  refine m_in E G hl (c_State_init l D K q_22) (wr := [(h0, .inr (0, [.int 0, .int 0, .ref q_1])), (q_1, .inl (K 6, 20, .inr (.inr (.inr (.inr f_21)))))]) [2] [0, 1] rfl rfl (by decide) (by decide) (by decide) 0 rfl rfl mw_code_X6_init mw_ini_6 mw_mn_0_24 mw_inst_X6_init hd_X6_init ⟨by decide, by decide⟩ rfl (Nat.le_of_ble_eq_true rfl) ⟨by decide, by decide⟩ dX0_init_40 (fun u_23 H locs hp G => ?_)
  have G : mG D A s H locs [(h0, .inr (0, [.int 0, .int 0, .ref q_1])), (q_1, .inl (K 6, 20, .inr (.inr (.inr (.inr f_21))))), (q_22, .inr (6, [.ref (u_23.1 0), .ref (u_23.1 1), .ref (u_23.1 2), .ref (u_23.1 3), .ref (u_23.1 4), .ref (u_23.1 5), .int 0, .int 0])), ((u_23.1 0), .inl (K 0, 5, .inl (fun _ => 0))), ((u_23.1 1), .inl (K 0, 5, .inl (fun _ => 0))), ((u_23.1 2), .inl (K 0, 5, .inl (fun _ => 0))), ((u_23.1 3), .inl (K 0, 5, .inl (fun _ => 0))), ((u_23.1 4), .inl (K 0, 6, .inl (fun _ => 0))), ((u_23.1 5), .inl (K 0, 6, .inl (fun _ => 0)))] := G
  have G : mG D A s H locs [(h0, .inr (0, [.int 0, .int 0, .ref q_1])), (q_1, .inl (K 6, 20, .inr (.inr (.inr (.inr f_21))))), (q_22, .inr (6, [.ref (u_23.1 0), .ref (u_23.1 1), .ref (u_23.1 2), .ref (u_23.1 3), .ref (u_23.1 4), .ref (u_23.1 5), .int 0, .int 0]))] := G.sub [0, 1, 2] (by decide) rfl
  refine m_aast E G 1 6 2 (ci := 6) (r := (RX6, TX6, 8)) rfl rfl rfl rfl (by unfold vp_in; decide) dX0_init_43 (fun H locs G => ?_)
  have G : mG D A s H locs [(h0, .inr (0, [.int 0, .int 0, .ref q_1])), (q_1, .inl (K 6, 20, .inr (.inr (.inr (.inr (va_up f_21 5 (some q_22))))))), (q_22, .inr (6, [.ref (u_23.1 0), .ref (u_23.1 1), .ref (u_23.1 2), .ref (u_23.1 3), .ref (u_23.1 4), .ref (u_23.1 5), .int 0, .int 0]))] := G
  obtain ⟨f_25, ef_25⟩ : ∃ f_25 : Nat → Option Nat, f_25 = (va_up f_21 5 (some q_22)) := ⟨_, rfl⟩
  have G : mG D A s H locs [(h0, .inr (0, [.int 0, .int 0, .ref q_1])), (q_1, .inl (K 6, 20, .inr (.inr (.inr (.inr f_25))))), (q_22, .inr (6, [.ref (u_23.1 0), .ref (u_23.1 1), .ref (u_23.1 2), .ref (u_23.1 3), .ref (u_23.1 4), .ref (u_23.1 5), .int 0, .int 0]))] := by subst ef_25; exact G
  clear ef_25
  have G : mG D A s H locs [(h0, .inr (0, [.int 0, .int 0, .ref q_1])), (q_1, .inl (K 6, 20, .inr (.inr (.inr (.inr f_25)))))] := G.sub [0, 1] (by decide) rfl
  refine lv_iinc (v := 6) (lv' := [(1, .int 6), (0, .ref h0)]) E.1 E.2.1 dX0_init_44 hl (k := 0) rfl (by decide) (by decide) rfl (fun ls hl => ?_)
  refine lv_goto (tgt := 25) E.1 E.2.1 dX0_init_47 (by decide) ?_
  refine lv_iload_n E.1 E.2.1 dX0_init_25 rfl (lv_at hl 0 rfl) ?_
  refine lv_bipush (v := 20) E.1 E.2.1 dX0_init_26 (by decide) ?_
  refine lv_icmp_ge (tgt := 50) E.1 E.2.1 dX0_init_28 (by decide) (fun h => absurd h (by decide)) (fun _ => ?_)
  refine lv_aload_n E.1 E.2.1 dX0_init_31 rfl (lv_at hl 1 rfl) ?_
  refine m_get E G 0 (ci := 0) rfl 2 (C := RX0) (T := TX0) (N := 3) rfl (by decide) mw_fl_0_20 (v := .ref q_1) rfl dX0_init_32 ?_
  refine lv_iload_n E.1 E.2.1 dX0_init_35 rfl (lv_at hl 0 rfl) ?_
  refine m_new E G 6 (C := RX6) (T := TX6) (N := 8) rfl fr_X6 mw_cl_0_18 mw_insta_6 mw_ini_6 (by decide) (by decide) dX0_init_36 (fun q_26 H G => ?_)
  have G : mG D A s H locs [(h0, .inr (0, [.int 0, .int 0, .ref q_1])), (q_1, .inl (K 6, 20, .inr (.inr (.inr (.inr f_25))))), (q_26, .inr (6, [.null, .null, .null, .null, .null, .null, .int 0, .int 0]))] := G
  refine lv_dup E.1 E.2.1 dX0_init_39 rfl ?_
  refine m_in E G hl (c_State_init l D K q_26) (wr := [(h0, .inr (0, [.int 0, .int 0, .ref q_1])), (q_1, .inl (K 6, 20, .inr (.inr (.inr (.inr f_25)))))]) [2] [0, 1] rfl rfl (by decide) (by decide) (by decide) 0 rfl rfl mw_code_X6_init mw_ini_6 mw_mn_0_24 mw_inst_X6_init hd_X6_init ⟨by decide, by decide⟩ rfl (Nat.le_of_ble_eq_true rfl) ⟨by decide, by decide⟩ dX0_init_40 (fun u_27 H locs hp G => ?_)
  have G : mG D A s H locs [(h0, .inr (0, [.int 0, .int 0, .ref q_1])), (q_1, .inl (K 6, 20, .inr (.inr (.inr (.inr f_25))))), (q_26, .inr (6, [.ref (u_27.1 0), .ref (u_27.1 1), .ref (u_27.1 2), .ref (u_27.1 3), .ref (u_27.1 4), .ref (u_27.1 5), .int 0, .int 0])), ((u_27.1 0), .inl (K 0, 5, .inl (fun _ => 0))), ((u_27.1 1), .inl (K 0, 5, .inl (fun _ => 0))), ((u_27.1 2), .inl (K 0, 5, .inl (fun _ => 0))), ((u_27.1 3), .inl (K 0, 5, .inl (fun _ => 0))), ((u_27.1 4), .inl (K 0, 6, .inl (fun _ => 0))), ((u_27.1 5), .inl (K 0, 6, .inl (fun _ => 0)))] := G
  have G : mG D A s H locs [(h0, .inr (0, [.int 0, .int 0, .ref q_1])), (q_1, .inl (K 6, 20, .inr (.inr (.inr (.inr f_25))))), (q_26, .inr (6, [.ref (u_27.1 0), .ref (u_27.1 1), .ref (u_27.1 2), .ref (u_27.1 3), .ref (u_27.1 4), .ref (u_27.1 5), .int 0, .int 0]))] := G.sub [0, 1, 2] (by decide) rfl
  refine m_aast E G 1 6 2 (ci := 6) (r := (RX6, TX6, 8)) rfl rfl rfl rfl (by unfold vp_in; decide) dX0_init_43 (fun H locs G => ?_)
  have G : mG D A s H locs [(h0, .inr (0, [.int 0, .int 0, .ref q_1])), (q_1, .inl (K 6, 20, .inr (.inr (.inr (.inr (va_up f_25 6 (some q_26))))))), (q_26, .inr (6, [.ref (u_27.1 0), .ref (u_27.1 1), .ref (u_27.1 2), .ref (u_27.1 3), .ref (u_27.1 4), .ref (u_27.1 5), .int 0, .int 0]))] := G
  obtain ⟨f_29, ef_29⟩ : ∃ f_29 : Nat → Option Nat, f_29 = (va_up f_25 6 (some q_26)) := ⟨_, rfl⟩
  have G : mG D A s H locs [(h0, .inr (0, [.int 0, .int 0, .ref q_1])), (q_1, .inl (K 6, 20, .inr (.inr (.inr (.inr f_29))))), (q_26, .inr (6, [.ref (u_27.1 0), .ref (u_27.1 1), .ref (u_27.1 2), .ref (u_27.1 3), .ref (u_27.1 4), .ref (u_27.1 5), .int 0, .int 0]))] := by subst ef_29; exact G
  clear ef_29
  have G : mG D A s H locs [(h0, .inr (0, [.int 0, .int 0, .ref q_1])), (q_1, .inl (K 6, 20, .inr (.inr (.inr (.inr f_29)))))] := G.sub [0, 1] (by decide) rfl
  refine lv_iinc (v := 7) (lv' := [(1, .int 7), (0, .ref h0)]) E.1 E.2.1 dX0_init_44 hl (k := 0) rfl (by decide) (by decide) rfl (fun ls hl => ?_)
  refine lv_goto (tgt := 25) E.1 E.2.1 dX0_init_47 (by decide) ?_
  refine lv_iload_n E.1 E.2.1 dX0_init_25 rfl (lv_at hl 0 rfl) ?_
  refine lv_bipush (v := 20) E.1 E.2.1 dX0_init_26 (by decide) ?_
  refine lv_icmp_ge (tgt := 50) E.1 E.2.1 dX0_init_28 (by decide) (fun h => absurd h (by decide)) (fun _ => ?_)
  refine lv_aload_n E.1 E.2.1 dX0_init_31 rfl (lv_at hl 1 rfl) ?_
  refine m_get E G 0 (ci := 0) rfl 2 (C := RX0) (T := TX0) (N := 3) rfl (by decide) mw_fl_0_20 (v := .ref q_1) rfl dX0_init_32 ?_
  refine lv_iload_n E.1 E.2.1 dX0_init_35 rfl (lv_at hl 0 rfl) ?_
  refine m_new E G 6 (C := RX6) (T := TX6) (N := 8) rfl fr_X6 mw_cl_0_18 mw_insta_6 mw_ini_6 (by decide) (by decide) dX0_init_36 (fun q_30 H G => ?_)
  have G : mG D A s H locs [(h0, .inr (0, [.int 0, .int 0, .ref q_1])), (q_1, .inl (K 6, 20, .inr (.inr (.inr (.inr f_29))))), (q_30, .inr (6, [.null, .null, .null, .null, .null, .null, .int 0, .int 0]))] := G
  refine lv_dup E.1 E.2.1 dX0_init_39 rfl ?_
  refine m_in E G hl (c_State_init l D K q_30) (wr := [(h0, .inr (0, [.int 0, .int 0, .ref q_1])), (q_1, .inl (K 6, 20, .inr (.inr (.inr (.inr f_29)))))]) [2] [0, 1] rfl rfl (by decide) (by decide) (by decide) 0 rfl rfl mw_code_X6_init mw_ini_6 mw_mn_0_24 mw_inst_X6_init hd_X6_init ⟨by decide, by decide⟩ rfl (Nat.le_of_ble_eq_true rfl) ⟨by decide, by decide⟩ dX0_init_40 (fun u_31 H locs hp G => ?_)
  have G : mG D A s H locs [(h0, .inr (0, [.int 0, .int 0, .ref q_1])), (q_1, .inl (K 6, 20, .inr (.inr (.inr (.inr f_29))))), (q_30, .inr (6, [.ref (u_31.1 0), .ref (u_31.1 1), .ref (u_31.1 2), .ref (u_31.1 3), .ref (u_31.1 4), .ref (u_31.1 5), .int 0, .int 0])), ((u_31.1 0), .inl (K 0, 5, .inl (fun _ => 0))), ((u_31.1 1), .inl (K 0, 5, .inl (fun _ => 0))), ((u_31.1 2), .inl (K 0, 5, .inl (fun _ => 0))), ((u_31.1 3), .inl (K 0, 5, .inl (fun _ => 0))), ((u_31.1 4), .inl (K 0, 6, .inl (fun _ => 0))), ((u_31.1 5), .inl (K 0, 6, .inl (fun _ => 0)))] := G
  have G : mG D A s H locs [(h0, .inr (0, [.int 0, .int 0, .ref q_1])), (q_1, .inl (K 6, 20, .inr (.inr (.inr (.inr f_29))))), (q_30, .inr (6, [.ref (u_31.1 0), .ref (u_31.1 1), .ref (u_31.1 2), .ref (u_31.1 3), .ref (u_31.1 4), .ref (u_31.1 5), .int 0, .int 0]))] := G.sub [0, 1, 2] (by decide) rfl
  refine m_aast E G 1 6 2 (ci := 6) (r := (RX6, TX6, 8)) rfl rfl rfl rfl (by unfold vp_in; decide) dX0_init_43 (fun H locs G => ?_)
  have G : mG D A s H locs [(h0, .inr (0, [.int 0, .int 0, .ref q_1])), (q_1, .inl (K 6, 20, .inr (.inr (.inr (.inr (va_up f_29 7 (some q_30))))))), (q_30, .inr (6, [.ref (u_31.1 0), .ref (u_31.1 1), .ref (u_31.1 2), .ref (u_31.1 3), .ref (u_31.1 4), .ref (u_31.1 5), .int 0, .int 0]))] := G
  obtain ⟨f_33, ef_33⟩ : ∃ f_33 : Nat → Option Nat, f_33 = (va_up f_29 7 (some q_30)) := ⟨_, rfl⟩
  have G : mG D A s H locs [(h0, .inr (0, [.int 0, .int 0, .ref q_1])), (q_1, .inl (K 6, 20, .inr (.inr (.inr (.inr f_33))))), (q_30, .inr (6, [.ref (u_31.1 0), .ref (u_31.1 1), .ref (u_31.1 2), .ref (u_31.1 3), .ref (u_31.1 4), .ref (u_31.1 5), .int 0, .int 0]))] := by subst ef_33; exact G
  clear ef_33
  have G : mG D A s H locs [(h0, .inr (0, [.int 0, .int 0, .ref q_1])), (q_1, .inl (K 6, 20, .inr (.inr (.inr (.inr f_33)))))] := G.sub [0, 1] (by decide) rfl
  refine lv_iinc (v := 8) (lv' := [(1, .int 8), (0, .ref h0)]) E.1 E.2.1 dX0_init_44 hl (k := 0) rfl (by decide) (by decide) rfl (fun ls hl => ?_)
  refine lv_goto (tgt := 25) E.1 E.2.1 dX0_init_47 (by decide) ?_
  refine lv_iload_n E.1 E.2.1 dX0_init_25 rfl (lv_at hl 0 rfl) ?_
  refine lv_bipush (v := 20) E.1 E.2.1 dX0_init_26 (by decide) ?_
  refine lv_icmp_ge (tgt := 50) E.1 E.2.1 dX0_init_28 (by decide) (fun h => absurd h (by decide)) (fun _ => ?_)
  refine lv_aload_n E.1 E.2.1 dX0_init_31 rfl (lv_at hl 1 rfl) ?_
  refine m_get E G 0 (ci := 0) rfl 2 (C := RX0) (T := TX0) (N := 3) rfl (by decide) mw_fl_0_20 (v := .ref q_1) rfl dX0_init_32 ?_
  refine lv_iload_n E.1 E.2.1 dX0_init_35 rfl (lv_at hl 0 rfl) ?_
  refine m_new E G 6 (C := RX6) (T := TX6) (N := 8) rfl fr_X6 mw_cl_0_18 mw_insta_6 mw_ini_6 (by decide) (by decide) dX0_init_36 (fun q_34 H G => ?_)
  have G : mG D A s H locs [(h0, .inr (0, [.int 0, .int 0, .ref q_1])), (q_1, .inl (K 6, 20, .inr (.inr (.inr (.inr f_33))))), (q_34, .inr (6, [.null, .null, .null, .null, .null, .null, .int 0, .int 0]))] := G
  refine lv_dup E.1 E.2.1 dX0_init_39 rfl ?_
  refine m_in E G hl (c_State_init l D K q_34) (wr := [(h0, .inr (0, [.int 0, .int 0, .ref q_1])), (q_1, .inl (K 6, 20, .inr (.inr (.inr (.inr f_33)))))]) [2] [0, 1] rfl rfl (by decide) (by decide) (by decide) 0 rfl rfl mw_code_X6_init mw_ini_6 mw_mn_0_24 mw_inst_X6_init hd_X6_init ⟨by decide, by decide⟩ rfl (Nat.le_of_ble_eq_true rfl) ⟨by decide, by decide⟩ dX0_init_40 (fun u_35 H locs hp G => ?_)
  have G : mG D A s H locs [(h0, .inr (0, [.int 0, .int 0, .ref q_1])), (q_1, .inl (K 6, 20, .inr (.inr (.inr (.inr f_33))))), (q_34, .inr (6, [.ref (u_35.1 0), .ref (u_35.1 1), .ref (u_35.1 2), .ref (u_35.1 3), .ref (u_35.1 4), .ref (u_35.1 5), .int 0, .int 0])), ((u_35.1 0), .inl (K 0, 5, .inl (fun _ => 0))), ((u_35.1 1), .inl (K 0, 5, .inl (fun _ => 0))), ((u_35.1 2), .inl (K 0, 5, .inl (fun _ => 0))), ((u_35.1 3), .inl (K 0, 5, .inl (fun _ => 0))), ((u_35.1 4), .inl (K 0, 6, .inl (fun _ => 0))), ((u_35.1 5), .inl (K 0, 6, .inl (fun _ => 0)))] := G
  have G : mG D A s H locs [(h0, .inr (0, [.int 0, .int 0, .ref q_1])), (q_1, .inl (K 6, 20, .inr (.inr (.inr (.inr f_33))))), (q_34, .inr (6, [.ref (u_35.1 0), .ref (u_35.1 1), .ref (u_35.1 2), .ref (u_35.1 3), .ref (u_35.1 4), .ref (u_35.1 5), .int 0, .int 0]))] := G.sub [0, 1, 2] (by decide) rfl
  refine m_aast E G 1 6 2 (ci := 6) (r := (RX6, TX6, 8)) rfl rfl rfl rfl (by unfold vp_in; decide) dX0_init_43 (fun H locs G => ?_)
  have G : mG D A s H locs [(h0, .inr (0, [.int 0, .int 0, .ref q_1])), (q_1, .inl (K 6, 20, .inr (.inr (.inr (.inr (va_up f_33 8 (some q_34))))))), (q_34, .inr (6, [.ref (u_35.1 0), .ref (u_35.1 1), .ref (u_35.1 2), .ref (u_35.1 3), .ref (u_35.1 4), .ref (u_35.1 5), .int 0, .int 0]))] := G
  obtain ⟨f_37, ef_37⟩ : ∃ f_37 : Nat → Option Nat, f_37 = (va_up f_33 8 (some q_34)) := ⟨_, rfl⟩
  have G : mG D A s H locs [(h0, .inr (0, [.int 0, .int 0, .ref q_1])), (q_1, .inl (K 6, 20, .inr (.inr (.inr (.inr f_37))))), (q_34, .inr (6, [.ref (u_35.1 0), .ref (u_35.1 1), .ref (u_35.1 2), .ref (u_35.1 3), .ref (u_35.1 4), .ref (u_35.1 5), .int 0, .int 0]))] := by subst ef_37; exact G
  clear ef_37
  have G : mG D A s H locs [(h0, .inr (0, [.int 0, .int 0, .ref q_1])), (q_1, .inl (K 6, 20, .inr (.inr (.inr (.inr f_37)))))] := G.sub [0, 1] (by decide) rfl
  refine lv_iinc (v := 9) (lv' := [(1, .int 9), (0, .ref h0)]) E.1 E.2.1 dX0_init_44 hl (k := 0) rfl (by decide) (by decide) rfl (fun ls hl => ?_)
  refine lv_goto (tgt := 25) E.1 E.2.1 dX0_init_47 (by decide) ?_
  refine lv_iload_n E.1 E.2.1 dX0_init_25 rfl (lv_at hl 0 rfl) ?_
  refine lv_bipush (v := 20) E.1 E.2.1 dX0_init_26 (by decide) ?_
  refine lv_icmp_ge (tgt := 50) E.1 E.2.1 dX0_init_28 (by decide) (fun h => absurd h (by decide)) (fun _ => ?_)
  refine lv_aload_n E.1 E.2.1 dX0_init_31 rfl (lv_at hl 1 rfl) ?_
  refine m_get E G 0 (ci := 0) rfl 2 (C := RX0) (T := TX0) (N := 3) rfl (by decide) mw_fl_0_20 (v := .ref q_1) rfl dX0_init_32 ?_
  refine lv_iload_n E.1 E.2.1 dX0_init_35 rfl (lv_at hl 0 rfl) ?_
  refine m_new E G 6 (C := RX6) (T := TX6) (N := 8) rfl fr_X6 mw_cl_0_18 mw_insta_6 mw_ini_6 (by decide) (by decide) dX0_init_36 (fun q_38 H G => ?_)
  have G : mG D A s H locs [(h0, .inr (0, [.int 0, .int 0, .ref q_1])), (q_1, .inl (K 6, 20, .inr (.inr (.inr (.inr f_37))))), (q_38, .inr (6, [.null, .null, .null, .null, .null, .null, .int 0, .int 0]))] := G
  refine lv_dup E.1 E.2.1 dX0_init_39 rfl ?_
  refine m_in E G hl (c_State_init l D K q_38) (wr := [(h0, .inr (0, [.int 0, .int 0, .ref q_1])), (q_1, .inl (K 6, 20, .inr (.inr (.inr (.inr f_37)))))]) [2] [0, 1] rfl rfl (by decide) (by decide) (by decide) 0 rfl rfl mw_code_X6_init mw_ini_6 mw_mn_0_24 mw_inst_X6_init hd_X6_init ⟨by decide, by decide⟩ rfl (Nat.le_of_ble_eq_true rfl) ⟨by decide, by decide⟩ dX0_init_40 (fun u_39 H locs hp G => ?_)
  have G : mG D A s H locs [(h0, .inr (0, [.int 0, .int 0, .ref q_1])), (q_1, .inl (K 6, 20, .inr (.inr (.inr (.inr f_37))))), (q_38, .inr (6, [.ref (u_39.1 0), .ref (u_39.1 1), .ref (u_39.1 2), .ref (u_39.1 3), .ref (u_39.1 4), .ref (u_39.1 5), .int 0, .int 0])), ((u_39.1 0), .inl (K 0, 5, .inl (fun _ => 0))), ((u_39.1 1), .inl (K 0, 5, .inl (fun _ => 0))), ((u_39.1 2), .inl (K 0, 5, .inl (fun _ => 0))), ((u_39.1 3), .inl (K 0, 5, .inl (fun _ => 0))), ((u_39.1 4), .inl (K 0, 6, .inl (fun _ => 0))), ((u_39.1 5), .inl (K 0, 6, .inl (fun _ => 0)))] := G
  have G : mG D A s H locs [(h0, .inr (0, [.int 0, .int 0, .ref q_1])), (q_1, .inl (K 6, 20, .inr (.inr (.inr (.inr f_37))))), (q_38, .inr (6, [.ref (u_39.1 0), .ref (u_39.1 1), .ref (u_39.1 2), .ref (u_39.1 3), .ref (u_39.1 4), .ref (u_39.1 5), .int 0, .int 0]))] := G.sub [0, 1, 2] (by decide) rfl
  refine m_aast E G 1 6 2 (ci := 6) (r := (RX6, TX6, 8)) rfl rfl rfl rfl (by unfold vp_in; decide) dX0_init_43 (fun H locs G => ?_)
  have G : mG D A s H locs [(h0, .inr (0, [.int 0, .int 0, .ref q_1])), (q_1, .inl (K 6, 20, .inr (.inr (.inr (.inr (va_up f_37 9 (some q_38))))))), (q_38, .inr (6, [.ref (u_39.1 0), .ref (u_39.1 1), .ref (u_39.1 2), .ref (u_39.1 3), .ref (u_39.1 4), .ref (u_39.1 5), .int 0, .int 0]))] := G
  obtain ⟨f_41, ef_41⟩ : ∃ f_41 : Nat → Option Nat, f_41 = (va_up f_37 9 (some q_38)) := ⟨_, rfl⟩
  have G : mG D A s H locs [(h0, .inr (0, [.int 0, .int 0, .ref q_1])), (q_1, .inl (K 6, 20, .inr (.inr (.inr (.inr f_41))))), (q_38, .inr (6, [.ref (u_39.1 0), .ref (u_39.1 1), .ref (u_39.1 2), .ref (u_39.1 3), .ref (u_39.1 4), .ref (u_39.1 5), .int 0, .int 0]))] := by subst ef_41; exact G
  clear ef_41
  have G : mG D A s H locs [(h0, .inr (0, [.int 0, .int 0, .ref q_1])), (q_1, .inl (K 6, 20, .inr (.inr (.inr (.inr f_41)))))] := G.sub [0, 1] (by decide) rfl
  refine lv_iinc (v := 10) (lv' := [(1, .int 10), (0, .ref h0)]) E.1 E.2.1 dX0_init_44 hl (k := 0) rfl (by decide) (by decide) rfl (fun ls hl => ?_)
  refine lv_goto (tgt := 25) E.1 E.2.1 dX0_init_47 (by decide) ?_
  refine lv_iload_n E.1 E.2.1 dX0_init_25 rfl (lv_at hl 0 rfl) ?_
  refine lv_bipush (v := 20) E.1 E.2.1 dX0_init_26 (by decide) ?_
  refine lv_icmp_ge (tgt := 50) E.1 E.2.1 dX0_init_28 (by decide) (fun h => absurd h (by decide)) (fun _ => ?_)
  refine lv_aload_n E.1 E.2.1 dX0_init_31 rfl (lv_at hl 1 rfl) ?_
  refine m_get E G 0 (ci := 0) rfl 2 (C := RX0) (T := TX0) (N := 3) rfl (by decide) mw_fl_0_20 (v := .ref q_1) rfl dX0_init_32 ?_
  refine lv_iload_n E.1 E.2.1 dX0_init_35 rfl (lv_at hl 0 rfl) ?_
  refine m_new E G 6 (C := RX6) (T := TX6) (N := 8) rfl fr_X6 mw_cl_0_18 mw_insta_6 mw_ini_6 (by decide) (by decide) dX0_init_36 (fun q_42 H G => ?_)
  have G : mG D A s H locs [(h0, .inr (0, [.int 0, .int 0, .ref q_1])), (q_1, .inl (K 6, 20, .inr (.inr (.inr (.inr f_41))))), (q_42, .inr (6, [.null, .null, .null, .null, .null, .null, .int 0, .int 0]))] := G
  refine lv_dup E.1 E.2.1 dX0_init_39 rfl ?_
  refine m_in E G hl (c_State_init l D K q_42) (wr := [(h0, .inr (0, [.int 0, .int 0, .ref q_1])), (q_1, .inl (K 6, 20, .inr (.inr (.inr (.inr f_41)))))]) [2] [0, 1] rfl rfl (by decide) (by decide) (by decide) 0 rfl rfl mw_code_X6_init mw_ini_6 mw_mn_0_24 mw_inst_X6_init hd_X6_init ⟨by decide, by decide⟩ rfl (Nat.le_of_ble_eq_true rfl) ⟨by decide, by decide⟩ dX0_init_40 (fun u_43 H locs hp G => ?_)
  have G : mG D A s H locs [(h0, .inr (0, [.int 0, .int 0, .ref q_1])), (q_1, .inl (K 6, 20, .inr (.inr (.inr (.inr f_41))))), (q_42, .inr (6, [.ref (u_43.1 0), .ref (u_43.1 1), .ref (u_43.1 2), .ref (u_43.1 3), .ref (u_43.1 4), .ref (u_43.1 5), .int 0, .int 0])), ((u_43.1 0), .inl (K 0, 5, .inl (fun _ => 0))), ((u_43.1 1), .inl (K 0, 5, .inl (fun _ => 0))), ((u_43.1 2), .inl (K 0, 5, .inl (fun _ => 0))), ((u_43.1 3), .inl (K 0, 5, .inl (fun _ => 0))), ((u_43.1 4), .inl (K 0, 6, .inl (fun _ => 0))), ((u_43.1 5), .inl (K 0, 6, .inl (fun _ => 0)))] := G
  have G : mG D A s H locs [(h0, .inr (0, [.int 0, .int 0, .ref q_1])), (q_1, .inl (K 6, 20, .inr (.inr (.inr (.inr f_41))))), (q_42, .inr (6, [.ref (u_43.1 0), .ref (u_43.1 1), .ref (u_43.1 2), .ref (u_43.1 3), .ref (u_43.1 4), .ref (u_43.1 5), .int 0, .int 0]))] := G.sub [0, 1, 2] (by decide) rfl
  refine m_aast E G 1 6 2 (ci := 6) (r := (RX6, TX6, 8)) rfl rfl rfl rfl (by unfold vp_in; decide) dX0_init_43 (fun H locs G => ?_)
  have G : mG D A s H locs [(h0, .inr (0, [.int 0, .int 0, .ref q_1])), (q_1, .inl (K 6, 20, .inr (.inr (.inr (.inr (va_up f_41 10 (some q_42))))))), (q_42, .inr (6, [.ref (u_43.1 0), .ref (u_43.1 1), .ref (u_43.1 2), .ref (u_43.1 3), .ref (u_43.1 4), .ref (u_43.1 5), .int 0, .int 0]))] := G
  obtain ⟨f_45, ef_45⟩ : ∃ f_45 : Nat → Option Nat, f_45 = (va_up f_41 10 (some q_42)) := ⟨_, rfl⟩
  have G : mG D A s H locs [(h0, .inr (0, [.int 0, .int 0, .ref q_1])), (q_1, .inl (K 6, 20, .inr (.inr (.inr (.inr f_45))))), (q_42, .inr (6, [.ref (u_43.1 0), .ref (u_43.1 1), .ref (u_43.1 2), .ref (u_43.1 3), .ref (u_43.1 4), .ref (u_43.1 5), .int 0, .int 0]))] := by subst ef_45; exact G
  clear ef_45
  have G : mG D A s H locs [(h0, .inr (0, [.int 0, .int 0, .ref q_1])), (q_1, .inl (K 6, 20, .inr (.inr (.inr (.inr f_45)))))] := G.sub [0, 1] (by decide) rfl
  refine lv_iinc (v := 11) (lv' := [(1, .int 11), (0, .ref h0)]) E.1 E.2.1 dX0_init_44 hl (k := 0) rfl (by decide) (by decide) rfl (fun ls hl => ?_)
  refine lv_goto (tgt := 25) E.1 E.2.1 dX0_init_47 (by decide) ?_
  refine lv_iload_n E.1 E.2.1 dX0_init_25 rfl (lv_at hl 0 rfl) ?_
  refine lv_bipush (v := 20) E.1 E.2.1 dX0_init_26 (by decide) ?_
  refine lv_icmp_ge (tgt := 50) E.1 E.2.1 dX0_init_28 (by decide) (fun h => absurd h (by decide)) (fun _ => ?_)
  refine lv_aload_n E.1 E.2.1 dX0_init_31 rfl (lv_at hl 1 rfl) ?_
  refine m_get E G 0 (ci := 0) rfl 2 (C := RX0) (T := TX0) (N := 3) rfl (by decide) mw_fl_0_20 (v := .ref q_1) rfl dX0_init_32 ?_
  refine lv_iload_n E.1 E.2.1 dX0_init_35 rfl (lv_at hl 0 rfl) ?_
  refine m_new E G 6 (C := RX6) (T := TX6) (N := 8) rfl fr_X6 mw_cl_0_18 mw_insta_6 mw_ini_6 (by decide) (by decide) dX0_init_36 (fun q_46 H G => ?_)
  have G : mG D A s H locs [(h0, .inr (0, [.int 0, .int 0, .ref q_1])), (q_1, .inl (K 6, 20, .inr (.inr (.inr (.inr f_45))))), (q_46, .inr (6, [.null, .null, .null, .null, .null, .null, .int 0, .int 0]))] := G
  refine lv_dup E.1 E.2.1 dX0_init_39 rfl ?_
  refine m_in E G hl (c_State_init l D K q_46) (wr := [(h0, .inr (0, [.int 0, .int 0, .ref q_1])), (q_1, .inl (K 6, 20, .inr (.inr (.inr (.inr f_45)))))]) [2] [0, 1] rfl rfl (by decide) (by decide) (by decide) 0 rfl rfl mw_code_X6_init mw_ini_6 mw_mn_0_24 mw_inst_X6_init hd_X6_init ⟨by decide, by decide⟩ rfl (Nat.le_of_ble_eq_true rfl) ⟨by decide, by decide⟩ dX0_init_40 (fun u_47 H locs hp G => ?_)
  have G : mG D A s H locs [(h0, .inr (0, [.int 0, .int 0, .ref q_1])), (q_1, .inl (K 6, 20, .inr (.inr (.inr (.inr f_45))))), (q_46, .inr (6, [.ref (u_47.1 0), .ref (u_47.1 1), .ref (u_47.1 2), .ref (u_47.1 3), .ref (u_47.1 4), .ref (u_47.1 5), .int 0, .int 0])), ((u_47.1 0), .inl (K 0, 5, .inl (fun _ => 0))), ((u_47.1 1), .inl (K 0, 5, .inl (fun _ => 0))), ((u_47.1 2), .inl (K 0, 5, .inl (fun _ => 0))), ((u_47.1 3), .inl (K 0, 5, .inl (fun _ => 0))), ((u_47.1 4), .inl (K 0, 6, .inl (fun _ => 0))), ((u_47.1 5), .inl (K 0, 6, .inl (fun _ => 0)))] := G
  have G : mG D A s H locs [(h0, .inr (0, [.int 0, .int 0, .ref q_1])), (q_1, .inl (K 6, 20, .inr (.inr (.inr (.inr f_45))))), (q_46, .inr (6, [.ref (u_47.1 0), .ref (u_47.1 1), .ref (u_47.1 2), .ref (u_47.1 3), .ref (u_47.1 4), .ref (u_47.1 5), .int 0, .int 0]))] := G.sub [0, 1, 2] (by decide) rfl
  refine m_aast E G 1 6 2 (ci := 6) (r := (RX6, TX6, 8)) rfl rfl rfl rfl (by unfold vp_in; decide) dX0_init_43 (fun H locs G => ?_)
  have G : mG D A s H locs [(h0, .inr (0, [.int 0, .int 0, .ref q_1])), (q_1, .inl (K 6, 20, .inr (.inr (.inr (.inr (va_up f_45 11 (some q_46))))))), (q_46, .inr (6, [.ref (u_47.1 0), .ref (u_47.1 1), .ref (u_47.1 2), .ref (u_47.1 3), .ref (u_47.1 4), .ref (u_47.1 5), .int 0, .int 0]))] := G
  obtain ⟨f_49, ef_49⟩ : ∃ f_49 : Nat → Option Nat, f_49 = (va_up f_45 11 (some q_46)) := ⟨_, rfl⟩
  have G : mG D A s H locs [(h0, .inr (0, [.int 0, .int 0, .ref q_1])), (q_1, .inl (K 6, 20, .inr (.inr (.inr (.inr f_49))))), (q_46, .inr (6, [.ref (u_47.1 0), .ref (u_47.1 1), .ref (u_47.1 2), .ref (u_47.1 3), .ref (u_47.1 4), .ref (u_47.1 5), .int 0, .int 0]))] := by subst ef_49; exact G
  clear ef_49
  have G : mG D A s H locs [(h0, .inr (0, [.int 0, .int 0, .ref q_1])), (q_1, .inl (K 6, 20, .inr (.inr (.inr (.inr f_49)))))] := G.sub [0, 1] (by decide) rfl
  refine lv_iinc (v := 12) (lv' := [(1, .int 12), (0, .ref h0)]) E.1 E.2.1 dX0_init_44 hl (k := 0) rfl (by decide) (by decide) rfl (fun ls hl => ?_)
  refine lv_goto (tgt := 25) E.1 E.2.1 dX0_init_47 (by decide) ?_
  refine lv_iload_n E.1 E.2.1 dX0_init_25 rfl (lv_at hl 0 rfl) ?_
  refine lv_bipush (v := 20) E.1 E.2.1 dX0_init_26 (by decide) ?_
  refine lv_icmp_ge (tgt := 50) E.1 E.2.1 dX0_init_28 (by decide) (fun h => absurd h (by decide)) (fun _ => ?_)
  refine lv_aload_n E.1 E.2.1 dX0_init_31 rfl (lv_at hl 1 rfl) ?_
  refine m_get E G 0 (ci := 0) rfl 2 (C := RX0) (T := TX0) (N := 3) rfl (by decide) mw_fl_0_20 (v := .ref q_1) rfl dX0_init_32 ?_
  refine lv_iload_n E.1 E.2.1 dX0_init_35 rfl (lv_at hl 0 rfl) ?_
  refine m_new E G 6 (C := RX6) (T := TX6) (N := 8) rfl fr_X6 mw_cl_0_18 mw_insta_6 mw_ini_6 (by decide) (by decide) dX0_init_36 (fun q_50 H G => ?_)
  have G : mG D A s H locs [(h0, .inr (0, [.int 0, .int 0, .ref q_1])), (q_1, .inl (K 6, 20, .inr (.inr (.inr (.inr f_49))))), (q_50, .inr (6, [.null, .null, .null, .null, .null, .null, .int 0, .int 0]))] := G
  refine lv_dup E.1 E.2.1 dX0_init_39 rfl ?_
  refine m_in E G hl (c_State_init l D K q_50) (wr := [(h0, .inr (0, [.int 0, .int 0, .ref q_1])), (q_1, .inl (K 6, 20, .inr (.inr (.inr (.inr f_49)))))]) [2] [0, 1] rfl rfl (by decide) (by decide) (by decide) 0 rfl rfl mw_code_X6_init mw_ini_6 mw_mn_0_24 mw_inst_X6_init hd_X6_init ⟨by decide, by decide⟩ rfl (Nat.le_of_ble_eq_true rfl) ⟨by decide, by decide⟩ dX0_init_40 (fun u_51 H locs hp G => ?_)
  have G : mG D A s H locs [(h0, .inr (0, [.int 0, .int 0, .ref q_1])), (q_1, .inl (K 6, 20, .inr (.inr (.inr (.inr f_49))))), (q_50, .inr (6, [.ref (u_51.1 0), .ref (u_51.1 1), .ref (u_51.1 2), .ref (u_51.1 3), .ref (u_51.1 4), .ref (u_51.1 5), .int 0, .int 0])), ((u_51.1 0), .inl (K 0, 5, .inl (fun _ => 0))), ((u_51.1 1), .inl (K 0, 5, .inl (fun _ => 0))), ((u_51.1 2), .inl (K 0, 5, .inl (fun _ => 0))), ((u_51.1 3), .inl (K 0, 5, .inl (fun _ => 0))), ((u_51.1 4), .inl (K 0, 6, .inl (fun _ => 0))), ((u_51.1 5), .inl (K 0, 6, .inl (fun _ => 0)))] := G
  have G : mG D A s H locs [(h0, .inr (0, [.int 0, .int 0, .ref q_1])), (q_1, .inl (K 6, 20, .inr (.inr (.inr (.inr f_49))))), (q_50, .inr (6, [.ref (u_51.1 0), .ref (u_51.1 1), .ref (u_51.1 2), .ref (u_51.1 3), .ref (u_51.1 4), .ref (u_51.1 5), .int 0, .int 0]))] := G.sub [0, 1, 2] (by decide) rfl
  refine m_aast E G 1 6 2 (ci := 6) (r := (RX6, TX6, 8)) rfl rfl rfl rfl (by unfold vp_in; decide) dX0_init_43 (fun H locs G => ?_)
  have G : mG D A s H locs [(h0, .inr (0, [.int 0, .int 0, .ref q_1])), (q_1, .inl (K 6, 20, .inr (.inr (.inr (.inr (va_up f_49 12 (some q_50))))))), (q_50, .inr (6, [.ref (u_51.1 0), .ref (u_51.1 1), .ref (u_51.1 2), .ref (u_51.1 3), .ref (u_51.1 4), .ref (u_51.1 5), .int 0, .int 0]))] := G
  obtain ⟨f_53, ef_53⟩ : ∃ f_53 : Nat → Option Nat, f_53 = (va_up f_49 12 (some q_50)) := ⟨_, rfl⟩
  have G : mG D A s H locs [(h0, .inr (0, [.int 0, .int 0, .ref q_1])), (q_1, .inl (K 6, 20, .inr (.inr (.inr (.inr f_53))))), (q_50, .inr (6, [.ref (u_51.1 0), .ref (u_51.1 1), .ref (u_51.1 2), .ref (u_51.1 3), .ref (u_51.1 4), .ref (u_51.1 5), .int 0, .int 0]))] := by subst ef_53; exact G
  clear ef_53
  have G : mG D A s H locs [(h0, .inr (0, [.int 0, .int 0, .ref q_1])), (q_1, .inl (K 6, 20, .inr (.inr (.inr (.inr f_53)))))] := G.sub [0, 1] (by decide) rfl
  refine lv_iinc (v := 13) (lv' := [(1, .int 13), (0, .ref h0)]) E.1 E.2.1 dX0_init_44 hl (k := 0) rfl (by decide) (by decide) rfl (fun ls hl => ?_)
  refine lv_goto (tgt := 25) E.1 E.2.1 dX0_init_47 (by decide) ?_
  refine lv_iload_n E.1 E.2.1 dX0_init_25 rfl (lv_at hl 0 rfl) ?_
  refine lv_bipush (v := 20) E.1 E.2.1 dX0_init_26 (by decide) ?_
  refine lv_icmp_ge (tgt := 50) E.1 E.2.1 dX0_init_28 (by decide) (fun h => absurd h (by decide)) (fun _ => ?_)
  refine lv_aload_n E.1 E.2.1 dX0_init_31 rfl (lv_at hl 1 rfl) ?_
  refine m_get E G 0 (ci := 0) rfl 2 (C := RX0) (T := TX0) (N := 3) rfl (by decide) mw_fl_0_20 (v := .ref q_1) rfl dX0_init_32 ?_
  refine lv_iload_n E.1 E.2.1 dX0_init_35 rfl (lv_at hl 0 rfl) ?_
  refine m_new E G 6 (C := RX6) (T := TX6) (N := 8) rfl fr_X6 mw_cl_0_18 mw_insta_6 mw_ini_6 (by decide) (by decide) dX0_init_36 (fun q_54 H G => ?_)
  have G : mG D A s H locs [(h0, .inr (0, [.int 0, .int 0, .ref q_1])), (q_1, .inl (K 6, 20, .inr (.inr (.inr (.inr f_53))))), (q_54, .inr (6, [.null, .null, .null, .null, .null, .null, .int 0, .int 0]))] := G
  refine lv_dup E.1 E.2.1 dX0_init_39 rfl ?_
  refine m_in E G hl (c_State_init l D K q_54) (wr := [(h0, .inr (0, [.int 0, .int 0, .ref q_1])), (q_1, .inl (K 6, 20, .inr (.inr (.inr (.inr f_53)))))]) [2] [0, 1] rfl rfl (by decide) (by decide) (by decide) 0 rfl rfl mw_code_X6_init mw_ini_6 mw_mn_0_24 mw_inst_X6_init hd_X6_init ⟨by decide, by decide⟩ rfl (Nat.le_of_ble_eq_true rfl) ⟨by decide, by decide⟩ dX0_init_40 (fun u_55 H locs hp G => ?_)
  have G : mG D A s H locs [(h0, .inr (0, [.int 0, .int 0, .ref q_1])), (q_1, .inl (K 6, 20, .inr (.inr (.inr (.inr f_53))))), (q_54, .inr (6, [.ref (u_55.1 0), .ref (u_55.1 1), .ref (u_55.1 2), .ref (u_55.1 3), .ref (u_55.1 4), .ref (u_55.1 5), .int 0, .int 0])), ((u_55.1 0), .inl (K 0, 5, .inl (fun _ => 0))), ((u_55.1 1), .inl (K 0, 5, .inl (fun _ => 0))), ((u_55.1 2), .inl (K 0, 5, .inl (fun _ => 0))), ((u_55.1 3), .inl (K 0, 5, .inl (fun _ => 0))), ((u_55.1 4), .inl (K 0, 6, .inl (fun _ => 0))), ((u_55.1 5), .inl (K 0, 6, .inl (fun _ => 0)))] := G
  have G : mG D A s H locs [(h0, .inr (0, [.int 0, .int 0, .ref q_1])), (q_1, .inl (K 6, 20, .inr (.inr (.inr (.inr f_53))))), (q_54, .inr (6, [.ref (u_55.1 0), .ref (u_55.1 1), .ref (u_55.1 2), .ref (u_55.1 3), .ref (u_55.1 4), .ref (u_55.1 5), .int 0, .int 0]))] := G.sub [0, 1, 2] (by decide) rfl
  refine m_aast E G 1 6 2 (ci := 6) (r := (RX6, TX6, 8)) rfl rfl rfl rfl (by unfold vp_in; decide) dX0_init_43 (fun H locs G => ?_)
  have G : mG D A s H locs [(h0, .inr (0, [.int 0, .int 0, .ref q_1])), (q_1, .inl (K 6, 20, .inr (.inr (.inr (.inr (va_up f_53 13 (some q_54))))))), (q_54, .inr (6, [.ref (u_55.1 0), .ref (u_55.1 1), .ref (u_55.1 2), .ref (u_55.1 3), .ref (u_55.1 4), .ref (u_55.1 5), .int 0, .int 0]))] := G
  obtain ⟨f_57, ef_57⟩ : ∃ f_57 : Nat → Option Nat, f_57 = (va_up f_53 13 (some q_54)) := ⟨_, rfl⟩
  have G : mG D A s H locs [(h0, .inr (0, [.int 0, .int 0, .ref q_1])), (q_1, .inl (K 6, 20, .inr (.inr (.inr (.inr f_57))))), (q_54, .inr (6, [.ref (u_55.1 0), .ref (u_55.1 1), .ref (u_55.1 2), .ref (u_55.1 3), .ref (u_55.1 4), .ref (u_55.1 5), .int 0, .int 0]))] := by subst ef_57; exact G
  clear ef_57
  have G : mG D A s H locs [(h0, .inr (0, [.int 0, .int 0, .ref q_1])), (q_1, .inl (K 6, 20, .inr (.inr (.inr (.inr f_57)))))] := G.sub [0, 1] (by decide) rfl
  refine lv_iinc (v := 14) (lv' := [(1, .int 14), (0, .ref h0)]) E.1 E.2.1 dX0_init_44 hl (k := 0) rfl (by decide) (by decide) rfl (fun ls hl => ?_)
  refine lv_goto (tgt := 25) E.1 E.2.1 dX0_init_47 (by decide) ?_
  refine lv_iload_n E.1 E.2.1 dX0_init_25 rfl (lv_at hl 0 rfl) ?_
  refine lv_bipush (v := 20) E.1 E.2.1 dX0_init_26 (by decide) ?_
  refine lv_icmp_ge (tgt := 50) E.1 E.2.1 dX0_init_28 (by decide) (fun h => absurd h (by decide)) (fun _ => ?_)
  refine lv_aload_n E.1 E.2.1 dX0_init_31 rfl (lv_at hl 1 rfl) ?_
  refine m_get E G 0 (ci := 0) rfl 2 (C := RX0) (T := TX0) (N := 3) rfl (by decide) mw_fl_0_20 (v := .ref q_1) rfl dX0_init_32 ?_
  refine lv_iload_n E.1 E.2.1 dX0_init_35 rfl (lv_at hl 0 rfl) ?_
  refine m_new E G 6 (C := RX6) (T := TX6) (N := 8) rfl fr_X6 mw_cl_0_18 mw_insta_6 mw_ini_6 (by decide) (by decide) dX0_init_36 (fun q_58 H G => ?_)
  have G : mG D A s H locs [(h0, .inr (0, [.int 0, .int 0, .ref q_1])), (q_1, .inl (K 6, 20, .inr (.inr (.inr (.inr f_57))))), (q_58, .inr (6, [.null, .null, .null, .null, .null, .null, .int 0, .int 0]))] := G
  refine lv_dup E.1 E.2.1 dX0_init_39 rfl ?_
  refine m_in E G hl (c_State_init l D K q_58) (wr := [(h0, .inr (0, [.int 0, .int 0, .ref q_1])), (q_1, .inl (K 6, 20, .inr (.inr (.inr (.inr f_57)))))]) [2] [0, 1] rfl rfl (by decide) (by decide) (by decide) 0 rfl rfl mw_code_X6_init mw_ini_6 mw_mn_0_24 mw_inst_X6_init hd_X6_init ⟨by decide, by decide⟩ rfl (Nat.le_of_ble_eq_true rfl) ⟨by decide, by decide⟩ dX0_init_40 (fun u_59 H locs hp G => ?_)
  have G : mG D A s H locs [(h0, .inr (0, [.int 0, .int 0, .ref q_1])), (q_1, .inl (K 6, 20, .inr (.inr (.inr (.inr f_57))))), (q_58, .inr (6, [.ref (u_59.1 0), .ref (u_59.1 1), .ref (u_59.1 2), .ref (u_59.1 3), .ref (u_59.1 4), .ref (u_59.1 5), .int 0, .int 0])), ((u_59.1 0), .inl (K 0, 5, .inl (fun _ => 0))), ((u_59.1 1), .inl (K 0, 5, .inl (fun _ => 0))), ((u_59.1 2), .inl (K 0, 5, .inl (fun _ => 0))), ((u_59.1 3), .inl (K 0, 5, .inl (fun _ => 0))), ((u_59.1 4), .inl (K 0, 6, .inl (fun _ => 0))), ((u_59.1 5), .inl (K 0, 6, .inl (fun _ => 0)))] := G
  have G : mG D A s H locs [(h0, .inr (0, [.int 0, .int 0, .ref q_1])), (q_1, .inl (K 6, 20, .inr (.inr (.inr (.inr f_57))))), (q_58, .inr (6, [.ref (u_59.1 0), .ref (u_59.1 1), .ref (u_59.1 2), .ref (u_59.1 3), .ref (u_59.1 4), .ref (u_59.1 5), .int 0, .int 0]))] := G.sub [0, 1, 2] (by decide) rfl
  refine m_aast E G 1 6 2 (ci := 6) (r := (RX6, TX6, 8)) rfl rfl rfl rfl (by unfold vp_in; decide) dX0_init_43 (fun H locs G => ?_)
  have G : mG D A s H locs [(h0, .inr (0, [.int 0, .int 0, .ref q_1])), (q_1, .inl (K 6, 20, .inr (.inr (.inr (.inr (va_up f_57 14 (some q_58))))))), (q_58, .inr (6, [.ref (u_59.1 0), .ref (u_59.1 1), .ref (u_59.1 2), .ref (u_59.1 3), .ref (u_59.1 4), .ref (u_59.1 5), .int 0, .int 0]))] := G
  obtain ⟨f_61, ef_61⟩ : ∃ f_61 : Nat → Option Nat, f_61 = (va_up f_57 14 (some q_58)) := ⟨_, rfl⟩
  have G : mG D A s H locs [(h0, .inr (0, [.int 0, .int 0, .ref q_1])), (q_1, .inl (K 6, 20, .inr (.inr (.inr (.inr f_61))))), (q_58, .inr (6, [.ref (u_59.1 0), .ref (u_59.1 1), .ref (u_59.1 2), .ref (u_59.1 3), .ref (u_59.1 4), .ref (u_59.1 5), .int 0, .int 0]))] := by subst ef_61; exact G
  clear ef_61
  have G : mG D A s H locs [(h0, .inr (0, [.int 0, .int 0, .ref q_1])), (q_1, .inl (K 6, 20, .inr (.inr (.inr (.inr f_61)))))] := G.sub [0, 1] (by decide) rfl
  refine lv_iinc (v := 15) (lv' := [(1, .int 15), (0, .ref h0)]) E.1 E.2.1 dX0_init_44 hl (k := 0) rfl (by decide) (by decide) rfl (fun ls hl => ?_)
  refine lv_goto (tgt := 25) E.1 E.2.1 dX0_init_47 (by decide) ?_
  refine lv_iload_n E.1 E.2.1 dX0_init_25 rfl (lv_at hl 0 rfl) ?_
  refine lv_bipush (v := 20) E.1 E.2.1 dX0_init_26 (by decide) ?_
  refine lv_icmp_ge (tgt := 50) E.1 E.2.1 dX0_init_28 (by decide) (fun h => absurd h (by decide)) (fun _ => ?_)
  refine lv_aload_n E.1 E.2.1 dX0_init_31 rfl (lv_at hl 1 rfl) ?_
  refine m_get E G 0 (ci := 0) rfl 2 (C := RX0) (T := TX0) (N := 3) rfl (by decide) mw_fl_0_20 (v := .ref q_1) rfl dX0_init_32 ?_
  refine lv_iload_n E.1 E.2.1 dX0_init_35 rfl (lv_at hl 0 rfl) ?_
  refine m_new E G 6 (C := RX6) (T := TX6) (N := 8) rfl fr_X6 mw_cl_0_18 mw_insta_6 mw_ini_6 (by decide) (by decide) dX0_init_36 (fun q_62 H G => ?_)
  have G : mG D A s H locs [(h0, .inr (0, [.int 0, .int 0, .ref q_1])), (q_1, .inl (K 6, 20, .inr (.inr (.inr (.inr f_61))))), (q_62, .inr (6, [.null, .null, .null, .null, .null, .null, .int 0, .int 0]))] := G
  refine lv_dup E.1 E.2.1 dX0_init_39 rfl ?_
  refine m_in E G hl (c_State_init l D K q_62) (wr := [(h0, .inr (0, [.int 0, .int 0, .ref q_1])), (q_1, .inl (K 6, 20, .inr (.inr (.inr (.inr f_61)))))]) [2] [0, 1] rfl rfl (by decide) (by decide) (by decide) 0 rfl rfl mw_code_X6_init mw_ini_6 mw_mn_0_24 mw_inst_X6_init hd_X6_init ⟨by decide, by decide⟩ rfl (Nat.le_of_ble_eq_true rfl) ⟨by decide, by decide⟩ dX0_init_40 (fun u_63 H locs hp G => ?_)
  have G : mG D A s H locs [(h0, .inr (0, [.int 0, .int 0, .ref q_1])), (q_1, .inl (K 6, 20, .inr (.inr (.inr (.inr f_61))))), (q_62, .inr (6, [.ref (u_63.1 0), .ref (u_63.1 1), .ref (u_63.1 2), .ref (u_63.1 3), .ref (u_63.1 4), .ref (u_63.1 5), .int 0, .int 0])), ((u_63.1 0), .inl (K 0, 5, .inl (fun _ => 0))), ((u_63.1 1), .inl (K 0, 5, .inl (fun _ => 0))), ((u_63.1 2), .inl (K 0, 5, .inl (fun _ => 0))), ((u_63.1 3), .inl (K 0, 5, .inl (fun _ => 0))), ((u_63.1 4), .inl (K 0, 6, .inl (fun _ => 0))), ((u_63.1 5), .inl (K 0, 6, .inl (fun _ => 0)))] := G
  have G : mG D A s H locs [(h0, .inr (0, [.int 0, .int 0, .ref q_1])), (q_1, .inl (K 6, 20, .inr (.inr (.inr (.inr f_61))))), (q_62, .inr (6, [.ref (u_63.1 0), .ref (u_63.1 1), .ref (u_63.1 2), .ref (u_63.1 3), .ref (u_63.1 4), .ref (u_63.1 5), .int 0, .int 0]))] := G.sub [0, 1, 2] (by decide) rfl
  refine m_aast E G 1 6 2 (ci := 6) (r := (RX6, TX6, 8)) rfl rfl rfl rfl (by unfold vp_in; decide) dX0_init_43 (fun H locs G => ?_)
  have G : mG D A s H locs [(h0, .inr (0, [.int 0, .int 0, .ref q_1])), (q_1, .inl (K 6, 20, .inr (.inr (.inr (.inr (va_up f_61 15 (some q_62))))))), (q_62, .inr (6, [.ref (u_63.1 0), .ref (u_63.1 1), .ref (u_63.1 2), .ref (u_63.1 3), .ref (u_63.1 4), .ref (u_63.1 5), .int 0, .int 0]))] := G
  obtain ⟨f_65, ef_65⟩ : ∃ f_65 : Nat → Option Nat, f_65 = (va_up f_61 15 (some q_62)) := ⟨_, rfl⟩
  have G : mG D A s H locs [(h0, .inr (0, [.int 0, .int 0, .ref q_1])), (q_1, .inl (K 6, 20, .inr (.inr (.inr (.inr f_65))))), (q_62, .inr (6, [.ref (u_63.1 0), .ref (u_63.1 1), .ref (u_63.1 2), .ref (u_63.1 3), .ref (u_63.1 4), .ref (u_63.1 5), .int 0, .int 0]))] := by subst ef_65; exact G
  clear ef_65
  have G : mG D A s H locs [(h0, .inr (0, [.int 0, .int 0, .ref q_1])), (q_1, .inl (K 6, 20, .inr (.inr (.inr (.inr f_65)))))] := G.sub [0, 1] (by decide) rfl
  refine lv_iinc (v := 16) (lv' := [(1, .int 16), (0, .ref h0)]) E.1 E.2.1 dX0_init_44 hl (k := 0) rfl (by decide) (by decide) rfl (fun ls hl => ?_)
  refine lv_goto (tgt := 25) E.1 E.2.1 dX0_init_47 (by decide) ?_
  refine lv_iload_n E.1 E.2.1 dX0_init_25 rfl (lv_at hl 0 rfl) ?_
  refine lv_bipush (v := 20) E.1 E.2.1 dX0_init_26 (by decide) ?_
  refine lv_icmp_ge (tgt := 50) E.1 E.2.1 dX0_init_28 (by decide) (fun h => absurd h (by decide)) (fun _ => ?_)
  refine lv_aload_n E.1 E.2.1 dX0_init_31 rfl (lv_at hl 1 rfl) ?_
  refine m_get E G 0 (ci := 0) rfl 2 (C := RX0) (T := TX0) (N := 3) rfl (by decide) mw_fl_0_20 (v := .ref q_1) rfl dX0_init_32 ?_
  refine lv_iload_n E.1 E.2.1 dX0_init_35 rfl (lv_at hl 0 rfl) ?_
  refine m_new E G 6 (C := RX6) (T := TX6) (N := 8) rfl fr_X6 mw_cl_0_18 mw_insta_6 mw_ini_6 (by decide) (by decide) dX0_init_36 (fun q_66 H G => ?_)
  have G : mG D A s H locs [(h0, .inr (0, [.int 0, .int 0, .ref q_1])), (q_1, .inl (K 6, 20, .inr (.inr (.inr (.inr f_65))))), (q_66, .inr (6, [.null, .null, .null, .null, .null, .null, .int 0, .int 0]))] := G
  refine lv_dup E.1 E.2.1 dX0_init_39 rfl ?_
  refine m_in E G hl (c_State_init l D K q_66) (wr := [(h0, .inr (0, [.int 0, .int 0, .ref q_1])), (q_1, .inl (K 6, 20, .inr (.inr (.inr (.inr f_65)))))]) [2] [0, 1] rfl rfl (by decide) (by decide) (by decide) 0 rfl rfl mw_code_X6_init mw_ini_6 mw_mn_0_24 mw_inst_X6_init hd_X6_init ⟨by decide, by decide⟩ rfl (Nat.le_of_ble_eq_true rfl) ⟨by decide, by decide⟩ dX0_init_40 (fun u_67 H locs hp G => ?_)
  have G : mG D A s H locs [(h0, .inr (0, [.int 0, .int 0, .ref q_1])), (q_1, .inl (K 6, 20, .inr (.inr (.inr (.inr f_65))))), (q_66, .inr (6, [.ref (u_67.1 0), .ref (u_67.1 1), .ref (u_67.1 2), .ref (u_67.1 3), .ref (u_67.1 4), .ref (u_67.1 5), .int 0, .int 0])), ((u_67.1 0), .inl (K 0, 5, .inl (fun _ => 0))), ((u_67.1 1), .inl (K 0, 5, .inl (fun _ => 0))), ((u_67.1 2), .inl (K 0, 5, .inl (fun _ => 0))), ((u_67.1 3), .inl (K 0, 5, .inl (fun _ => 0))), ((u_67.1 4), .inl (K 0, 6, .inl (fun _ => 0))), ((u_67.1 5), .inl (K 0, 6, .inl (fun _ => 0)))] := G
  have G : mG D A s H locs [(h0, .inr (0, [.int 0, .int 0, .ref q_1])), (q_1, .inl (K 6, 20, .inr (.inr (.inr (.inr f_65))))), (q_66, .inr (6, [.ref (u_67.1 0), .ref (u_67.1 1), .ref (u_67.1 2), .ref (u_67.1 3), .ref (u_67.1 4), .ref (u_67.1 5), .int 0, .int 0]))] := G.sub [0, 1, 2] (by decide) rfl
  refine m_aast E G 1 6 2 (ci := 6) (r := (RX6, TX6, 8)) rfl rfl rfl rfl (by unfold vp_in; decide) dX0_init_43 (fun H locs G => ?_)
  have G : mG D A s H locs [(h0, .inr (0, [.int 0, .int 0, .ref q_1])), (q_1, .inl (K 6, 20, .inr (.inr (.inr (.inr (va_up f_65 16 (some q_66))))))), (q_66, .inr (6, [.ref (u_67.1 0), .ref (u_67.1 1), .ref (u_67.1 2), .ref (u_67.1 3), .ref (u_67.1 4), .ref (u_67.1 5), .int 0, .int 0]))] := G
  obtain ⟨f_69, ef_69⟩ : ∃ f_69 : Nat → Option Nat, f_69 = (va_up f_65 16 (some q_66)) := ⟨_, rfl⟩
  have G : mG D A s H locs [(h0, .inr (0, [.int 0, .int 0, .ref q_1])), (q_1, .inl (K 6, 20, .inr (.inr (.inr (.inr f_69))))), (q_66, .inr (6, [.ref (u_67.1 0), .ref (u_67.1 1), .ref (u_67.1 2), .ref (u_67.1 3), .ref (u_67.1 4), .ref (u_67.1 5), .int 0, .int 0]))] := by subst ef_69; exact G
  clear ef_69
  have G : mG D A s H locs [(h0, .inr (0, [.int 0, .int 0, .ref q_1])), (q_1, .inl (K 6, 20, .inr (.inr (.inr (.inr f_69)))))] := G.sub [0, 1] (by decide) rfl
  refine lv_iinc (v := 17) (lv' := [(1, .int 17), (0, .ref h0)]) E.1 E.2.1 dX0_init_44 hl (k := 0) rfl (by decide) (by decide) rfl (fun ls hl => ?_)
  refine lv_goto (tgt := 25) E.1 E.2.1 dX0_init_47 (by decide) ?_
  refine lv_iload_n E.1 E.2.1 dX0_init_25 rfl (lv_at hl 0 rfl) ?_
  refine lv_bipush (v := 20) E.1 E.2.1 dX0_init_26 (by decide) ?_
  refine lv_icmp_ge (tgt := 50) E.1 E.2.1 dX0_init_28 (by decide) (fun h => absurd h (by decide)) (fun _ => ?_)
  refine lv_aload_n E.1 E.2.1 dX0_init_31 rfl (lv_at hl 1 rfl) ?_
  refine m_get E G 0 (ci := 0) rfl 2 (C := RX0) (T := TX0) (N := 3) rfl (by decide) mw_fl_0_20 (v := .ref q_1) rfl dX0_init_32 ?_
  refine lv_iload_n E.1 E.2.1 dX0_init_35 rfl (lv_at hl 0 rfl) ?_
  refine m_new E G 6 (C := RX6) (T := TX6) (N := 8) rfl fr_X6 mw_cl_0_18 mw_insta_6 mw_ini_6 (by decide) (by decide) dX0_init_36 (fun q_70 H G => ?_)
  have G : mG D A s H locs [(h0, .inr (0, [.int 0, .int 0, .ref q_1])), (q_1, .inl (K 6, 20, .inr (.inr (.inr (.inr f_69))))), (q_70, .inr (6, [.null, .null, .null, .null, .null, .null, .int 0, .int 0]))] := G
  refine lv_dup E.1 E.2.1 dX0_init_39 rfl ?_
  refine m_in E G hl (c_State_init l D K q_70) (wr := [(h0, .inr (0, [.int 0, .int 0, .ref q_1])), (q_1, .inl (K 6, 20, .inr (.inr (.inr (.inr f_69)))))]) [2] [0, 1] rfl rfl (by decide) (by decide) (by decide) 0 rfl rfl mw_code_X6_init mw_ini_6 mw_mn_0_24 mw_inst_X6_init hd_X6_init ⟨by decide, by decide⟩ rfl (Nat.le_of_ble_eq_true rfl) ⟨by decide, by decide⟩ dX0_init_40 (fun u_71 H locs hp G => ?_)
  have G : mG D A s H locs [(h0, .inr (0, [.int 0, .int 0, .ref q_1])), (q_1, .inl (K 6, 20, .inr (.inr (.inr (.inr f_69))))), (q_70, .inr (6, [.ref (u_71.1 0), .ref (u_71.1 1), .ref (u_71.1 2), .ref (u_71.1 3), .ref (u_71.1 4), .ref (u_71.1 5), .int 0, .int 0])), ((u_71.1 0), .inl (K 0, 5, .inl (fun _ => 0))), ((u_71.1 1), .inl (K 0, 5, .inl (fun _ => 0))), ((u_71.1 2), .inl (K 0, 5, .inl (fun _ => 0))), ((u_71.1 3), .inl (K 0, 5, .inl (fun _ => 0))), ((u_71.1 4), .inl (K 0, 6, .inl (fun _ => 0))), ((u_71.1 5), .inl (K 0, 6, .inl (fun _ => 0)))] := G
  have G : mG D A s H locs [(h0, .inr (0, [.int 0, .int 0, .ref q_1])), (q_1, .inl (K 6, 20, .inr (.inr (.inr (.inr f_69))))), (q_70, .inr (6, [.ref (u_71.1 0), .ref (u_71.1 1), .ref (u_71.1 2), .ref (u_71.1 3), .ref (u_71.1 4), .ref (u_71.1 5), .int 0, .int 0]))] := G.sub [0, 1, 2] (by decide) rfl
  refine m_aast E G 1 6 2 (ci := 6) (r := (RX6, TX6, 8)) rfl rfl rfl rfl (by unfold vp_in; decide) dX0_init_43 (fun H locs G => ?_)
  have G : mG D A s H locs [(h0, .inr (0, [.int 0, .int 0, .ref q_1])), (q_1, .inl (K 6, 20, .inr (.inr (.inr (.inr (va_up f_69 17 (some q_70))))))), (q_70, .inr (6, [.ref (u_71.1 0), .ref (u_71.1 1), .ref (u_71.1 2), .ref (u_71.1 3), .ref (u_71.1 4), .ref (u_71.1 5), .int 0, .int 0]))] := G
  obtain ⟨f_73, ef_73⟩ : ∃ f_73 : Nat → Option Nat, f_73 = (va_up f_69 17 (some q_70)) := ⟨_, rfl⟩
  have G : mG D A s H locs [(h0, .inr (0, [.int 0, .int 0, .ref q_1])), (q_1, .inl (K 6, 20, .inr (.inr (.inr (.inr f_73))))), (q_70, .inr (6, [.ref (u_71.1 0), .ref (u_71.1 1), .ref (u_71.1 2), .ref (u_71.1 3), .ref (u_71.1 4), .ref (u_71.1 5), .int 0, .int 0]))] := by subst ef_73; exact G
  clear ef_73
  have G : mG D A s H locs [(h0, .inr (0, [.int 0, .int 0, .ref q_1])), (q_1, .inl (K 6, 20, .inr (.inr (.inr (.inr f_73)))))] := G.sub [0, 1] (by decide) rfl
  refine lv_iinc (v := 18) (lv' := [(1, .int 18), (0, .ref h0)]) E.1 E.2.1 dX0_init_44 hl (k := 0) rfl (by decide) (by decide) rfl (fun ls hl => ?_)
  refine lv_goto (tgt := 25) E.1 E.2.1 dX0_init_47 (by decide) ?_
  refine lv_iload_n E.1 E.2.1 dX0_init_25 rfl (lv_at hl 0 rfl) ?_
  refine lv_bipush (v := 20) E.1 E.2.1 dX0_init_26 (by decide) ?_
  refine lv_icmp_ge (tgt := 50) E.1 E.2.1 dX0_init_28 (by decide) (fun h => absurd h (by decide)) (fun _ => ?_)
  refine lv_aload_n E.1 E.2.1 dX0_init_31 rfl (lv_at hl 1 rfl) ?_
  refine m_get E G 0 (ci := 0) rfl 2 (C := RX0) (T := TX0) (N := 3) rfl (by decide) mw_fl_0_20 (v := .ref q_1) rfl dX0_init_32 ?_
  refine lv_iload_n E.1 E.2.1 dX0_init_35 rfl (lv_at hl 0 rfl) ?_
  refine m_new E G 6 (C := RX6) (T := TX6) (N := 8) rfl fr_X6 mw_cl_0_18 mw_insta_6 mw_ini_6 (by decide) (by decide) dX0_init_36 (fun q_74 H G => ?_)
  have G : mG D A s H locs [(h0, .inr (0, [.int 0, .int 0, .ref q_1])), (q_1, .inl (K 6, 20, .inr (.inr (.inr (.inr f_73))))), (q_74, .inr (6, [.null, .null, .null, .null, .null, .null, .int 0, .int 0]))] := G
  refine lv_dup E.1 E.2.1 dX0_init_39 rfl ?_
  refine m_in E G hl (c_State_init l D K q_74) (wr := [(h0, .inr (0, [.int 0, .int 0, .ref q_1])), (q_1, .inl (K 6, 20, .inr (.inr (.inr (.inr f_73)))))]) [2] [0, 1] rfl rfl (by decide) (by decide) (by decide) 0 rfl rfl mw_code_X6_init mw_ini_6 mw_mn_0_24 mw_inst_X6_init hd_X6_init ⟨by decide, by decide⟩ rfl (Nat.le_of_ble_eq_true rfl) ⟨by decide, by decide⟩ dX0_init_40 (fun u_75 H locs hp G => ?_)
  have G : mG D A s H locs [(h0, .inr (0, [.int 0, .int 0, .ref q_1])), (q_1, .inl (K 6, 20, .inr (.inr (.inr (.inr f_73))))), (q_74, .inr (6, [.ref (u_75.1 0), .ref (u_75.1 1), .ref (u_75.1 2), .ref (u_75.1 3), .ref (u_75.1 4), .ref (u_75.1 5), .int 0, .int 0])), ((u_75.1 0), .inl (K 0, 5, .inl (fun _ => 0))), ((u_75.1 1), .inl (K 0, 5, .inl (fun _ => 0))), ((u_75.1 2), .inl (K 0, 5, .inl (fun _ => 0))), ((u_75.1 3), .inl (K 0, 5, .inl (fun _ => 0))), ((u_75.1 4), .inl (K 0, 6, .inl (fun _ => 0))), ((u_75.1 5), .inl (K 0, 6, .inl (fun _ => 0)))] := G
  have G : mG D A s H locs [(h0, .inr (0, [.int 0, .int 0, .ref q_1])), (q_1, .inl (K 6, 20, .inr (.inr (.inr (.inr f_73))))), (q_74, .inr (6, [.ref (u_75.1 0), .ref (u_75.1 1), .ref (u_75.1 2), .ref (u_75.1 3), .ref (u_75.1 4), .ref (u_75.1 5), .int 0, .int 0]))] := G.sub [0, 1, 2] (by decide) rfl
  refine m_aast E G 1 6 2 (ci := 6) (r := (RX6, TX6, 8)) rfl rfl rfl rfl (by unfold vp_in; decide) dX0_init_43 (fun H locs G => ?_)
  have G : mG D A s H locs [(h0, .inr (0, [.int 0, .int 0, .ref q_1])), (q_1, .inl (K 6, 20, .inr (.inr (.inr (.inr (va_up f_73 18 (some q_74))))))), (q_74, .inr (6, [.ref (u_75.1 0), .ref (u_75.1 1), .ref (u_75.1 2), .ref (u_75.1 3), .ref (u_75.1 4), .ref (u_75.1 5), .int 0, .int 0]))] := G
  obtain ⟨f_77, ef_77⟩ : ∃ f_77 : Nat → Option Nat, f_77 = (va_up f_73 18 (some q_74)) := ⟨_, rfl⟩
  have G : mG D A s H locs [(h0, .inr (0, [.int 0, .int 0, .ref q_1])), (q_1, .inl (K 6, 20, .inr (.inr (.inr (.inr f_77))))), (q_74, .inr (6, [.ref (u_75.1 0), .ref (u_75.1 1), .ref (u_75.1 2), .ref (u_75.1 3), .ref (u_75.1 4), .ref (u_75.1 5), .int 0, .int 0]))] := by subst ef_77; exact G
  clear ef_77
  have G : mG D A s H locs [(h0, .inr (0, [.int 0, .int 0, .ref q_1])), (q_1, .inl (K 6, 20, .inr (.inr (.inr (.inr f_77)))))] := G.sub [0, 1] (by decide) rfl
  refine lv_iinc (v := 19) (lv' := [(1, .int 19), (0, .ref h0)]) E.1 E.2.1 dX0_init_44 hl (k := 0) rfl (by decide) (by decide) rfl (fun ls hl => ?_)
  refine lv_goto (tgt := 25) E.1 E.2.1 dX0_init_47 (by decide) ?_
  refine lv_iload_n E.1 E.2.1 dX0_init_25 rfl (lv_at hl 0 rfl) ?_
  refine lv_bipush (v := 20) E.1 E.2.1 dX0_init_26 (by decide) ?_
  refine lv_icmp_ge (tgt := 50) E.1 E.2.1 dX0_init_28 (by decide) (fun h => absurd h (by decide)) (fun _ => ?_)
  refine lv_aload_n E.1 E.2.1 dX0_init_31 rfl (lv_at hl 1 rfl) ?_
  refine m_get E G 0 (ci := 0) rfl 2 (C := RX0) (T := TX0) (N := 3) rfl (by decide) mw_fl_0_20 (v := .ref q_1) rfl dX0_init_32 ?_
  refine lv_iload_n E.1 E.2.1 dX0_init_35 rfl (lv_at hl 0 rfl) ?_
  refine m_new E G 6 (C := RX6) (T := TX6) (N := 8) rfl fr_X6 mw_cl_0_18 mw_insta_6 mw_ini_6 (by decide) (by decide) dX0_init_36 (fun q_78 H G => ?_)
  have G : mG D A s H locs [(h0, .inr (0, [.int 0, .int 0, .ref q_1])), (q_1, .inl (K 6, 20, .inr (.inr (.inr (.inr f_77))))), (q_78, .inr (6, [.null, .null, .null, .null, .null, .null, .int 0, .int 0]))] := G
  refine lv_dup E.1 E.2.1 dX0_init_39 rfl ?_
  refine m_in E G hl (c_State_init l D K q_78) (wr := [(h0, .inr (0, [.int 0, .int 0, .ref q_1])), (q_1, .inl (K 6, 20, .inr (.inr (.inr (.inr f_77)))))]) [2] [0, 1] rfl rfl (by decide) (by decide) (by decide) 0 rfl rfl mw_code_X6_init mw_ini_6 mw_mn_0_24 mw_inst_X6_init hd_X6_init ⟨by decide, by decide⟩ rfl (Nat.le_of_ble_eq_true rfl) ⟨by decide, by decide⟩ dX0_init_40 (fun u_79 H locs hp G => ?_)
  have G : mG D A s H locs [(h0, .inr (0, [.int 0, .int 0, .ref q_1])), (q_1, .inl (K 6, 20, .inr (.inr (.inr (.inr f_77))))), (q_78, .inr (6, [.ref (u_79.1 0), .ref (u_79.1 1), .ref (u_79.1 2), .ref (u_79.1 3), .ref (u_79.1 4), .ref (u_79.1 5), .int 0, .int 0])), ((u_79.1 0), .inl (K 0, 5, .inl (fun _ => 0))), ((u_79.1 1), .inl (K 0, 5, .inl (fun _ => 0))), ((u_79.1 2), .inl (K 0, 5, .inl (fun _ => 0))), ((u_79.1 3), .inl (K 0, 5, .inl (fun _ => 0))), ((u_79.1 4), .inl (K 0, 6, .inl (fun _ => 0))), ((u_79.1 5), .inl (K 0, 6, .inl (fun _ => 0)))] := G
  have G : mG D A s H locs [(h0, .inr (0, [.int 0, .int 0, .ref q_1])), (q_1, .inl (K 6, 20, .inr (.inr (.inr (.inr f_77))))), (q_78, .inr (6, [.ref (u_79.1 0), .ref (u_79.1 1), .ref (u_79.1 2), .ref (u_79.1 3), .ref (u_79.1 4), .ref (u_79.1 5), .int 0, .int 0]))] := G.sub [0, 1, 2] (by decide) rfl
  refine m_aast E G 1 6 2 (ci := 6) (r := (RX6, TX6, 8)) rfl rfl rfl rfl (by unfold vp_in; decide) dX0_init_43 (fun H locs G => ?_)
  have G : mG D A s H locs [(h0, .inr (0, [.int 0, .int 0, .ref q_1])), (q_1, .inl (K 6, 20, .inr (.inr (.inr (.inr (va_up f_77 19 (some q_78))))))), (q_78, .inr (6, [.ref (u_79.1 0), .ref (u_79.1 1), .ref (u_79.1 2), .ref (u_79.1 3), .ref (u_79.1 4), .ref (u_79.1 5), .int 0, .int 0]))] := G
  obtain ⟨f_81, ef_81⟩ : ∃ f_81 : Nat → Option Nat, f_81 = (va_up f_77 19 (some q_78)) := ⟨_, rfl⟩
  have G : mG D A s H locs [(h0, .inr (0, [.int 0, .int 0, .ref q_1])), (q_1, .inl (K 6, 20, .inr (.inr (.inr (.inr f_81))))), (q_78, .inr (6, [.ref (u_79.1 0), .ref (u_79.1 1), .ref (u_79.1 2), .ref (u_79.1 3), .ref (u_79.1 4), .ref (u_79.1 5), .int 0, .int 0]))] := by subst ef_81; exact G
  clear ef_81
  have G : mG D A s H locs [(h0, .inr (0, [.int 0, .int 0, .ref q_1])), (q_1, .inl (K 6, 20, .inr (.inr (.inr (.inr f_81)))))] := G.sub [0, 1] (by decide) rfl
  refine lv_iinc (v := 20) (lv' := [(1, .int 20), (0, .ref h0)]) E.1 E.2.1 dX0_init_44 hl (k := 0) rfl (by decide) (by decide) rfl (fun ls hl => ?_)
  refine lv_goto (tgt := 25) E.1 E.2.1 dX0_init_47 (by decide) ?_
  refine lv_iload_n E.1 E.2.1 dX0_init_25 rfl (lv_at hl 0 rfl) ?_
  refine lv_bipush (v := 20) E.1 E.2.1 dX0_init_26 (by decide) ?_
  refine lv_icmp_ge (tgt := 50) E.1 E.2.1 dX0_init_28 (by decide) (fun _ => ?_) (fun h => absurd (by decide) h)
  exact m_retv E G hr (fun k => [q_1].getD k 0, fun _ _ => 0, fun _ _ => none) trivial [0] (by decide) rfl (by decide) (by decide) dX0_init_50
