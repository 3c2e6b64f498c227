theorem mw_ao_6 : (Cond.arrayOver (.object "LureTown$State") : Cond) ∈ cw := cw_of (List.mem_append_right _ (List.mem_append_right _ (List.mem_append_left _ (List.mem_of_getElem? (i := 80) (by decide +kernel))))) (by decide +kernel)
theorem mw_cl_0_18 : (Cond.classLink RX0 18 RX6 : Cond) ∈ cw := cw_of (List.mem_append_right _ (List.mem_append_right _ (List.mem_append_left _ (List.mem_of_getElem? (i := 79) (by decide +kernel))))) (by decide +kernel)
theorem mw_ml_0_3 : (Cond.methodLink RX0 3 Lib.objectInit : Cond) ∈ cw := cw_of (List.mem_append_right _ (List.mem_append_right _ (List.mem_append_left _ (List.mem_of_getElem? (i := 78) (by decide +kernel))))) (by decide +kernel)
theorem mw_mn_0_24 : (Cond.methodLinkNest RX0 24 yX6_init "LureTown" : Cond) ∈ cw := cw_of (List.mem_append_right _ (List.mem_append_right _ (List.mem_append_left _ (List.mem_of_getElem? (i := 81) (by decide +kernel))))) (by decide +kernel)
theorem dX0_init_0 : decode cX0_init 0 = .ok (.aload_n 0, 1) := by decide +kernel
theorem dX0_init_1 : decode cX0_init 1 = .ok (.invokespecial 3, 3) := by decide +kernel
theorem dX0_init_4 : decode cX0_init 4 = .ok (.aload_n 0, 1) := by decide +kernel
theorem dX0_init_5 : decode cX0_init 5 = .ok (.iconst 0, 1) := by decide +kernel
theorem dX0_init_6 : decode cX0_init 6 = .ok (.putfield 9, 3) := by decide +kernel
theorem dX0_init_9 : decode cX0_init 9 = .ok (.aload_n 0, 1) := by decide +kernel
theorem dX0_init_10 : decode cX0_init 10 = .ok (.iconst 0, 1) := by decide +kernel
theorem dX0_init_11 : decode cX0_init 11 = .ok (.putfield 15, 3) := by decide +kernel
theorem dX0_init_14 : decode cX0_init 14 = .ok (.aload_n 0, 1) := by decide +kernel
theorem dX0_init_15 : decode cX0_init 15 = .ok (.bipush 20, 2) := by decide +kernel
theorem dX0_init_17 : decode cX0_init 17 = .ok (.anewarray 18, 3) := by decide +kernel
theorem dX0_init_20 : decode cX0_init 20 = .ok (.putfield 20, 3) := by decide +kernel
theorem dX0_init_23 : decode cX0_init 23 = .ok (.iconst 0, 1) := by decide +kernel
theorem dX0_init_24 : decode cX0_init 24 = .ok (.istore_n 1, 1) := by decide +kernel
theorem dX0_init_25 : decode cX0_init 25 = .ok (.iload_n 1, 1) := by decide +kernel
theorem dX0_init_26 : decode cX0_init 26 = .ok (.bipush 20, 2) := by decide +kernel
theorem dX0_init_28 : decode cX0_init 28 = .ok (.if_icmp .ge 22, 3) := by decide +kernel
theorem dX0_init_31 : decode cX0_init 31 = .ok (.aload_n 0, 1) := by decide +kernel
theorem dX0_init_32 : decode cX0_init 32 = .ok (.getfield 20, 3) := by decide +kernel
theorem dX0_init_35 : decode cX0_init 35 = .ok (.iload_n 1, 1) := by decide +kernel
theorem dX0_init_36 : decode cX0_init 36 = .ok (.new 18, 3) := by decide +kernel
theorem dX0_init_39 : decode cX0_init 39 = .ok (.dup, 1) := by decide +kernel
theorem dX0_init_40 : decode cX0_init 40 = .ok (.invokespecial 24, 3) := by decide +kernel
theorem dX0_init_43 : decode cX0_init 43 = .ok (.aastore, 1) := by decide +kernel
theorem dX0_init_44 : decode cX0_init 44 = .ok (.iinc 1 1, 3) := by decide +kernel
theorem dX0_init_47 : decode cX0_init 47 = .ok (.goto (-22), 3) := by decide +kernel
theorem dX0_init_50 : decode cX0_init 50 = .ok (.return_, 1) := by decide +kernel
set_option maxHeartbeats 4000000 in
set_option maxRecDepth 100000 in
theorem n_Acts (l : Launch) (D : va_G) (K : Nat → ClassId) (h0 : Nat) : mV (S := Nat → Nat) l yX0_init cX0_init 2 ({ frames := 2, cells := 141, slots := 820, locals := 40 }) D K [(h0, .inr (0, [.int 0, .int 0, .null]))] [.ref h0] (fun g => g 182 = h0) (fun g => Bk K 182 142 g) := by
  refine m_enterV (by decide) (Nat.le_of_ble_eq_true rfl) ?_
  intro p e s m args below meth c A ls E hr hN G hl
  have E : mE p s m meth c cX0_init args 2 RX0 D K A := E
  have hl : lv_has ls 2 [(0, .ref h0)] := hl
  obtain ⟨H, hH⟩ : ∃ H, H = s.heap := ⟨_, rfl⟩
  obtain ⟨locs, hlo⟩ : ∃ L : List Loc, L = [] := ⟨_, rfl⟩
  rw [← hH, ← hlo] at G
  rw [← hH, ← hlo]
  clear hH hlo
  obtain ⟨ac0, hac0⟩ : ∃ w : va_W, w = [] := ⟨_, rfl⟩
  have G : mG D A s H locs ((h0, .inr (0, [.int 0, .int 0, .null])) :: ac0) := by rw [hac0]; exact G
  refine lv_aload_n E.1 E.2.1 dX0_init_0 rfl (lv_at hl 0 rfl) ?_
  refine m_objInit E hl mw_ml_0_3 dX0_init_1 (by decide) (Nat.le_of_ble_eq_true rfl) (by decide) ?_
  refine lv_aload_n E.1 E.2.1 dX0_init_4 rfl (lv_at hl 0 rfl) ?_
  refine lv_iconst (v := 0) E.1 E.2.1 dX0_init_5 (by decide) ?_
  refine m_put E G 0 (ci := 0) rfl 0 (C := RX0) (T := TX0) (N := 3) rfl (by decide) mw_fl_0_9 rfl rfl rfl (Nat.le_of_ble_eq_true rfl) dX0_init_6 (fun H locs G => ?_)
  have G : mG D A s H locs ((h0, .inr (0, [.int 0, .int 0, .null])) :: ac0) := G
  refine lv_aload_n E.1 E.2.1 dX0_init_9 rfl (lv_at hl 0 rfl) ?_
  refine lv_iconst (v := 0) E.1 E.2.1 dX0_init_10 (by decide) ?_
  refine m_put E G 0 (ci := 0) rfl 1 (C := RX0) (T := TX0) (N := 3) rfl (by decide) mw_fl_0_15 rfl rfl rfl (Nat.le_of_ble_eq_true rfl) dX0_init_11 (fun H locs G => ?_)
  have G : mG D A s H locs ((h0, .inr (0, [.int 0, .int 0, .null])) :: ac0) := G
  refine lv_aload_n E.1 E.2.1 dX0_init_14 rfl (lv_at hl 0 rfl) ?_
  refine lv_bipush (v := 20) E.1 E.2.1 dX0_init_15 (by decide) ?_
  refine m_newq E G 6 rfl mw_ao_6 mw_cl_0_18 (N' := 20) (by decide) (by decide) (by decide) (by decide) (by decide) dX0_init_17 (fun q1 H G => ?_)
  have G : mG D A s H locs ((h0, .inr (0, [.int 0, .int 0, .null])) :: (q1, .inl (K 6, 20, .inr (.inr (.inr (.inr (fun _ => none)))))) :: ac0) := G.pm (List.Perm.cons _ (pm_f _ _))
  refine m_putF E G hN 0 (ci := 0) rfl 2 (C := RX0) (T := TX0) (N := 3) rfl (by decide) mw_fl_0_20 rfl rfl rfl rfl (Nat.le_of_ble_eq_true rfl) dX0_init_20 (fun H locs G => ?_)
  have G : mG D A s H locs ((h0, .inr (0, [.int 0, .int 0, .ref q1])) :: (q1, .inl (K 6, 20, .inr (.inr (.inr (.inr (fun _ => none)))))) :: ac0) := G
  refine lv_iconst (v := 0) E.1 E.2.1 dX0_init_23 (by decide) ?_
  refine lv_istore_n (lv' := [(1, .int 0), (0, .ref h0)]) E.1 E.2.1 dX0_init_24 rfl hl (by decide) rfl (fun ls hl => ?_)
  refine lv_iload_n E.1 E.2.1 dX0_init_25 rfl (lv_at hl 0 rfl) ?_
  refine lv_bipush (v := 20) E.1 E.2.1 dX0_init_26 (by decide) ?_
  refine lv_icmp_ge (tgt := 50) E.1 E.2.1 dX0_init_28 (by decide) (fun h => absurd h (by decide)) (fun _ => ?_)
  refine lv_aload_n E.1 E.2.1 dX0_init_31 rfl (lv_at hl 1 rfl) ?_
  refine m_get E G 0 (ci := 0) rfl 2 (C := RX0) (T := TX0) (N := 3) rfl (by decide) mw_fl_0_20 (v := .ref q1) rfl dX0_init_32 ?_
  refine lv_iload_n E.1 E.2.1 dX0_init_35 rfl (lv_at hl 0 rfl) ?_
  refine m_new E G 6 (C := RX6) (T := TX6) (N := 8) rfl fr_X6 mw_cl_0_18 mw_insta_6 mw_ini_6 (by decide) (by decide) dX0_init_36 (fun q2 H G => ?_)
  have G : mG D A s H locs ((q2, .inr (6, [.null, .null, .null, .null, .null, .null, .int 0, .int 0])) :: (h0, .inr (0, [.int 0, .int 0, .ref q1])) :: (q1, .inl (K 6, 20, .inr (.inr (.inr (.inr (fun _ => none)))))) :: ac0) := G.pm (pm_f _ _)
  refine lv_dup E.1 E.2.1 dX0_init_39 rfl ?_
  refine n_in E G hl (n_State l D K 184 (by decide : at_ 6 184 = true) q2) rfl mw_code_X6_init mw_ini_6 mw_mn_0_24 mw_inst_X6_init hd_X6_init ⟨by decide, by decide⟩ rfl (Nat.le_of_ble_eq_true rfl) ⟨by decide, by decide⟩ dX0_init_40 (fun g3 H locs hp4 G => ?_)
  have G : mG D A s H locs (Bk K 184 7 g3 ++ ((h0, .inr (0, [.int 0, .int 0, .ref q1])) :: (q1, .inl (K 6, 20, .inr (.inr (.inr (.inr (fun _ => none)))))) :: ac0)) := G.pm List.perm_append_comm
  refine m_aast E G 8 6 0 (ci := 6) (r := (RX6, TX6, 8)) rfl rfl (show some (g3 184, cellF K g3 184) = _ by rw [hp4, cf_o (j := 184) (ci := 6) (rfl : ro 184 = 6) (by decide)]) rfl (by unfold vp_in; decide) dX0_init_43 (fun H locs G => ?_)
  have G : mG D A s H locs (Bk K 184 7 g3 ++ ((h0, .inr (0, [.int 0, .int 0, .ref q1])) :: (q1, .inl (K 6, 20, .inr (.inr (.inr (.inr (va_up (fun _ => none) 0 (some q2))))))) :: ac0)) := G
  have G : mG D A s H locs (((h0, .inr (0, [.int 0, .int 0, .ref q1])) :: (q1, .inl (K 6, 20, .inr (.inr (.inr (.inr (va_up (fun _ => none) 0 (some q2))))))) :: ac0) ++ (Bk K 184 7 g3)) := G.pm List.perm_append_comm
  obtain ⟨ac5, hac5⟩ : ∃ w : va_W, w = ac0 ++ (Bk K 184 7 g3) := ⟨_, rfl⟩
  have G : mG D A s H locs ((h0, .inr (0, [.int 0, .int 0, .ref q1])) :: (q1, .inl (K 6, 20, .inr (.inr (.inr (.inr (va_up (fun _ => none) 0 (some q2))))))) :: ac5) := by rw [hac5]; exact G
  refine lv_iinc (v := 1) (lv' := [(1, .int 1), (0, .ref h0)]) E.1 E.2.1 dX0_init_44 hl (k := 0) rfl (by decide) (by decide) rfl (fun ls hl => ?_)
  refine lv_goto (tgt := 25) E.1 E.2.1 dX0_init_47 (by decide) ?_
  refine lv_iload_n E.1 E.2.1 dX0_init_25 rfl (lv_at hl 0 rfl) ?_
  refine lv_bipush (v := 20) E.1 E.2.1 dX0_init_26 (by decide) ?_
  refine lv_icmp_ge (tgt := 50) E.1 E.2.1 dX0_init_28 (by decide) (fun h => absurd h (by decide)) (fun _ => ?_)
  refine lv_aload_n E.1 E.2.1 dX0_init_31 rfl (lv_at hl 1 rfl) ?_
  refine m_get E G 0 (ci := 0) rfl 2 (C := RX0) (T := TX0) (N := 3) rfl (by decide) mw_fl_0_20 (v := .ref q1) rfl dX0_init_32 ?_
  refine lv_iload_n E.1 E.2.1 dX0_init_35 rfl (lv_at hl 0 rfl) ?_
  refine m_new E G 6 (C := RX6) (T := TX6) (N := 8) rfl fr_X6 mw_cl_0_18 mw_insta_6 mw_ini_6 (by decide) (by decide) dX0_init_36 (fun q6 H G => ?_)
  have G : mG D A s H locs ((q6, .inr (6, [.null, .null, .null, .null, .null, .null, .int 0, .int 0])) :: (h0, .inr (0, [.int 0, .int 0, .ref q1])) :: (q1, .inl (K 6, 20, .inr (.inr (.inr (.inr (va_up (fun _ => none) 0 (some q2))))))) :: ac5) := G.pm (pm_f _ _)
  refine lv_dup E.1 E.2.1 dX0_init_39 rfl ?_
  refine n_in E G hl (n_State l D K 191 (by decide : at_ 6 191 = true) q6) rfl mw_code_X6_init mw_ini_6 mw_mn_0_24 mw_inst_X6_init hd_X6_init ⟨by decide, by decide⟩ rfl (Nat.le_of_ble_eq_true rfl) ⟨by decide, by decide⟩ dX0_init_40 (fun g7 H locs hp8 G => ?_)
  have G : mG D A s H locs (Bk K 191 7 g7 ++ ((h0, .inr (0, [.int 0, .int 0, .ref q1])) :: (q1, .inl (K 6, 20, .inr (.inr (.inr (.inr (va_up (fun _ => none) 0 (some q2))))))) :: ac5)) := G.pm List.perm_append_comm
  refine m_aast E G 8 6 0 (ci := 6) (r := (RX6, TX6, 8)) rfl rfl (show some (g7 191, cellF K g7 191) = _ by rw [hp8, cf_o (j := 191) (ci := 6) (rfl : ro 191 = 6) (by decide)]) rfl (by unfold vp_in; decide) dX0_init_43 (fun H locs G => ?_)
  have G : mG D A s H locs (Bk K 191 7 g7 ++ ((h0, .inr (0, [.int 0, .int 0, .ref q1])) :: (q1, .inl (K 6, 20, .inr (.inr (.inr (.inr (va_up (va_up (fun _ => none) 0 (some q2)) 1 (some q6))))))) :: ac5)) := G
  have G : mG D A s H locs (((h0, .inr (0, [.int 0, .int 0, .ref q1])) :: (q1, .inl (K 6, 20, .inr (.inr (.inr (.inr (va_up (va_up (fun _ => none) 0 (some q2)) 1 (some q6))))))) :: ac5) ++ (Bk K 191 7 g7)) := G.pm List.perm_append_comm
  obtain ⟨ac9, hac9⟩ : ∃ w : va_W, w = ac5 ++ (Bk K 191 7 g7) := ⟨_, rfl⟩
  have G : mG D A s H locs ((h0, .inr (0, [.int 0, .int 0, .ref q1])) :: (q1, .inl (K 6, 20, .inr (.inr (.inr (.inr (va_up (va_up (fun _ => none) 0 (some q2)) 1 (some q6))))))) :: ac9) := by rw [hac9]; exact G
  refine lv_iinc (v := 2) (lv' := [(1, .int 2), (0, .ref h0)]) E.1 E.2.1 dX0_init_44 hl (k := 0) rfl (by decide) (by decide) rfl (fun ls hl => ?_)
  refine lv_goto (tgt := 25) E.1 E.2.1 dX0_init_47 (by decide) ?_
  refine lv_iload_n E.1 E.2.1 dX0_init_25 rfl (lv_at hl 0 rfl) ?_
  refine lv_bipush (v := 20) E.1 E.2.1 dX0_init_26 (by decide) ?_
  refine lv_icmp_ge (tgt := 50) E.1 E.2.1 dX0_init_28 (by decide) (fun h => absurd h (by decide)) (fun _ => ?_)
  refine lv_aload_n E.1 E.2.1 dX0_init_31 rfl (lv_at hl 1 rfl) ?_
  refine m_get E G 0 (ci := 0) rfl 2 (C := RX0) (T := TX0) (N := 3) rfl (by decide) mw_fl_0_20 (v := .ref q1) rfl dX0_init_32 ?_
  refine lv_iload_n E.1 E.2.1 dX0_init_35 rfl (lv_at hl 0 rfl) ?_
  refine m_new E G 6 (C := RX6) (T := TX6) (N := 8) rfl fr_X6 mw_cl_0_18 mw_insta_6 mw_ini_6 (by decide) (by decide) dX0_init_36 (fun q10 H G => ?_)
  have G : mG D A s H locs ((q10, .inr (6, [.null, .null, .null, .null, .null, .null, .int 0, .int 0])) :: (h0, .inr (0, [.int 0, .int 0, .ref q1])) :: (q1, .inl (K 6, 20, .inr (.inr (.inr (.inr (va_up (va_up (fun _ => none) 0 (some q2)) 1 (some q6))))))) :: ac9) := G.pm (pm_f _ _)
  refine lv_dup E.1 E.2.1 dX0_init_39 rfl ?_
  refine n_in E G hl (n_State l D K 198 (by decide : at_ 6 198 = true) q10) rfl mw_code_X6_init mw_ini_6 mw_mn_0_24 mw_inst_X6_init hd_X6_init ⟨by decide, by decide⟩ rfl (Nat.le_of_ble_eq_true rfl) ⟨by decide, by decide⟩ dX0_init_40 (fun g11 H locs hp12 G => ?_)
  have G : mG D A s H locs (Bk K 198 7 g11 ++ ((h0, .inr (0, [.int 0, .int 0, .ref q1])) :: (q1, .inl (K 6, 20, .inr (.inr (.inr (.inr (va_up (va_up (fun _ => none) 0 (some q2)) 1 (some q6))))))) :: ac9)) := G.pm List.perm_append_comm
  refine m_aast E G 8 6 0 (ci := 6) (r := (RX6, TX6, 8)) rfl rfl (show some (g11 198, cellF K g11 198) = _ by rw [hp12, cf_o (j := 198) (ci := 6) (rfl : ro 198 = 6) (by decide)]) rfl (by unfold vp_in; decide) dX0_init_43 (fun H locs G => ?_)
  have G : mG D A s H locs (Bk K 198 7 g11 ++ ((h0, .inr (0, [.int 0, .int 0, .ref q1])) :: (q1, .inl (K 6, 20, .inr (.inr (.inr (.inr (va_up (va_up (va_up (fun _ => none) 0 (some q2)) 1 (some q6)) 2 (some q10))))))) :: ac9)) := G
  have G : mG D A s H locs (((h0, .inr (0, [.int 0, .int 0, .ref q1])) :: (q1, .inl (K 6, 20, .inr (.inr (.inr (.inr (va_up (va_up (va_up (fun _ => none) 0 (some q2)) 1 (some q6)) 2 (some q10))))))) :: ac9) ++ (Bk K 198 7 g11)) := G.pm List.perm_append_comm
  obtain ⟨ac13, hac13⟩ : ∃ w : va_W, w = ac9 ++ (Bk K 198 7 g11) := ⟨_, rfl⟩
  have G : mG D A s H locs ((h0, .inr (0, [.int 0, .int 0, .ref q1])) :: (q1, .inl (K 6, 20, .inr (.inr (.inr (.inr (va_up (va_up (va_up (fun _ => none) 0 (some q2)) 1 (some q6)) 2 (some q10))))))) :: ac13) := by rw [hac13]; exact G
  refine lv_iinc (v := 3) (lv' := [(1, .int 3), (0, .ref h0)]) E.1 E.2.1 dX0_init_44 hl (k := 0) rfl (by decide) (by decide) rfl (fun ls hl => ?_)
  refine lv_goto (tgt := 25) E.1 E.2.1 dX0_init_47 (by decide) ?_
  refine lv_iload_n E.1 E.2.1 dX0_init_25 rfl (lv_at hl 0 rfl) ?_
  refine lv_bipush (v := 20) E.1 E.2.1 dX0_init_26 (by decide) ?_
  refine lv_icmp_ge (tgt := 50) E.1 E.2.1 dX0_init_28 (by decide) (fun h => absurd h (by decide)) (fun _ => ?_)
  refine lv_aload_n E.1 E.2.1 dX0_init_31 rfl (lv_at hl 1 rfl) ?_
  refine m_get E G 0 (ci := 0) rfl 2 (C := RX0) (T := TX0) (N := 3) rfl (by decide) mw_fl_0_20 (v := .ref q1) rfl dX0_init_32 ?_
  refine lv_iload_n E.1 E.2.1 dX0_init_35 rfl (lv_at hl 0 rfl) ?_
  refine m_new E G 6 (C := RX6) (T := TX6) (N := 8) rfl fr_X6 mw_cl_0_18 mw_insta_6 mw_ini_6 (by decide) (by decide) dX0_init_36 (fun q14 H G => ?_)
  have G : mG D A s H locs ((q14, .inr (6, [.null, .null, .null, .null, .null, .null, .int 0, .int 0])) :: (h0, .inr (0, [.int 0, .int 0, .ref q1])) :: (q1, .inl (K 6, 20, .inr (.inr (.inr (.inr (va_up (va_up (va_up (fun _ => none) 0 (some q2)) 1 (some q6)) 2 (some q10))))))) :: ac13) := G.pm (pm_f _ _)
  refine lv_dup E.1 E.2.1 dX0_init_39 rfl ?_
  refine n_in E G hl (n_State l D K 205 (by decide : at_ 6 205 = true) q14) rfl mw_code_X6_init mw_ini_6 mw_mn_0_24 mw_inst_X6_init hd_X6_init ⟨by decide, by decide⟩ rfl (Nat.le_of_ble_eq_true rfl) ⟨by decide, by decide⟩ dX0_init_40 (fun g15 H locs hp16 G => ?_)
  have G : mG D A s H locs (Bk K 205 7 g15 ++ ((h0, .inr (0, [.int 0, .int 0, .ref q1])) :: (q1, .inl (K 6, 20, .inr (.inr (.inr (.inr (va_up (va_up (va_up (fun _ => none) 0 (some q2)) 1 (some q6)) 2 (some q10))))))) :: ac13)) := G.pm List.perm_append_comm
  refine m_aast E G 8 6 0 (ci := 6) (r := (RX6, TX6, 8)) rfl rfl (show some (g15 205, cellF K g15 205) = _ by rw [hp16, cf_o (j := 205) (ci := 6) (rfl : ro 205 = 6) (by decide)]) rfl (by unfold vp_in; decide) dX0_init_43 (fun H locs G => ?_)
  have G : mG D A s H locs (Bk K 205 7 g15 ++ ((h0, .inr (0, [.int 0, .int 0, .ref q1])) :: (q1, .inl (K 6, 20, .inr (.inr (.inr (.inr (va_up (va_up (va_up (va_up (fun _ => none) 0 (some q2)) 1 (some q6)) 2 (some q10)) 3 (some q14))))))) :: ac13)) := G
  have G : mG D A s H locs (((h0, .inr (0, [.int 0, .int 0, .ref q1])) :: (q1, .inl (K 6, 20, .inr (.inr (.inr (.inr (va_up (va_up (va_up (va_up (fun _ => none) 0 (some q2)) 1 (some q6)) 2 (some q10)) 3 (some q14))))))) :: ac13) ++ (Bk K 205 7 g15)) := G.pm List.perm_append_comm
  obtain ⟨ac17, hac17⟩ : ∃ w : va_W, w = ac13 ++ (Bk K 205 7 g15) := ⟨_, rfl⟩
  have G : mG D A s H locs ((h0, .inr (0, [.int 0, .int 0, .ref q1])) :: (q1, .inl (K 6, 20, .inr (.inr (.inr (.inr (va_up (va_up (va_up (va_up (fun _ => none) 0 (some q2)) 1 (some q6)) 2 (some q10)) 3 (some q14))))))) :: ac17) := by rw [hac17]; exact G
  refine lv_iinc (v := 4) (lv' := [(1, .int 4), (0, .ref h0)]) E.1 E.2.1 dX0_init_44 hl (k := 0) rfl (by decide) (by decide) rfl (fun ls hl => ?_)
  refine lv_goto (tgt := 25) E.1 E.2.1 dX0_init_47 (by decide) ?_
  refine lv_iload_n E.1 E.2.1 dX0_init_25 rfl (lv_at hl 0 rfl) ?_
  refine lv_bipush (v := 20) E.1 E.2.1 dX0_init_26 (by decide) ?_
  refine lv_icmp_ge (tgt := 50) E.1 E.2.1 dX0_init_28 (by decide) (fun h => absurd h (by decide)) (fun _ => ?_)
  refine lv_aload_n E.1 E.2.1 dX0_init_31 rfl (lv_at hl 1 rfl) ?_
  refine m_get E G 0 (ci := 0) rfl 2 (C := RX0) (T := TX0) (N := 3) rfl (by decide) mw_fl_0_20 (v := .ref q1) rfl dX0_init_32 ?_
  refine lv_iload_n E.1 E.2.1 dX0_init_35 rfl (lv_at hl 0 rfl) ?_
  refine m_new E G 6 (C := RX6) (T := TX6) (N := 8) rfl fr_X6 mw_cl_0_18 mw_insta_6 mw_ini_6 (by decide) (by decide) dX0_init_36 (fun q18 H G => ?_)
  have G : mG D A s H locs ((q18, .inr (6, [.null, .null, .null, .null, .null, .null, .int 0, .int 0])) :: (h0, .inr (0, [.int 0, .int 0, .ref q1])) :: (q1, .inl (K 6, 20, .inr (.inr (.inr (.inr (va_up (va_up (va_up (va_up (fun _ => none) 0 (some q2)) 1 (some q6)) 2 (some q10)) 3 (some q14))))))) :: ac17) := G.pm (pm_f _ _)
  refine lv_dup E.1 E.2.1 dX0_init_39 rfl ?_
  refine n_in E G hl (n_State l D K 212 (by decide : at_ 6 212 = true) q18) rfl mw_code_X6_init mw_ini_6 mw_mn_0_24 mw_inst_X6_init hd_X6_init ⟨by decide, by decide⟩ rfl (Nat.le_of_ble_eq_true rfl) ⟨by decide, by decide⟩ dX0_init_40 (fun g19 H locs hp20 G => ?_)
  have G : mG D A s H locs (Bk K 212 7 g19 ++ ((h0, .inr (0, [.int 0, .int 0, .ref q1])) :: (q1, .inl (K 6, 20, .inr (.inr (.inr (.inr (va_up (va_up (va_up (va_up (fun _ => none) 0 (some q2)) 1 (some q6)) 2 (some q10)) 3 (some q14))))))) :: ac17)) := G.pm List.perm_append_comm
  refine m_aast E G 8 6 0 (ci := 6) (r := (RX6, TX6, 8)) rfl rfl (show some (g19 212, cellF K g19 212) = _ by rw [hp20, cf_o (j := 212) (ci := 6) (rfl : ro 212 = 6) (by decide)]) rfl (by unfold vp_in; decide) dX0_init_43 (fun H locs G => ?_)
  have G : mG D A s H locs (Bk K 212 7 g19 ++ ((h0, .inr (0, [.int 0, .int 0, .ref q1])) :: (q1, .inl (K 6, 20, .inr (.inr (.inr (.inr (va_up (va_up (va_up (va_up (va_up (fun _ => none) 0 (some q2)) 1 (some q6)) 2 (some q10)) 3 (some q14)) 4 (some q18))))))) :: ac17)) := G
  have G : mG D A s H locs (((h0, .inr (0, [.int 0, .int 0, .ref q1])) :: (q1, .inl (K 6, 20, .inr (.inr (.inr (.inr (va_up (va_up (va_up (va_up (va_up (fun _ => none) 0 (some q2)) 1 (some q6)) 2 (some q10)) 3 (some q14)) 4 (some q18))))))) :: ac17) ++ (Bk K 212 7 g19)) := G.pm List.perm_append_comm
  obtain ⟨ac21, hac21⟩ : ∃ w : va_W, w = ac17 ++ (Bk K 212 7 g19) := ⟨_, rfl⟩
  have G : mG D A s H locs ((h0, .inr (0, [.int 0, .int 0, .ref q1])) :: (q1, .inl (K 6, 20, .inr (.inr (.inr (.inr (va_up (va_up (va_up (va_up (va_up (fun _ => none) 0 (some q2)) 1 (some q6)) 2 (some q10)) 3 (some q14)) 4 (some q18))))))) :: ac21) := by rw [hac21]; exact G
  refine lv_iinc (v := 5) (lv' := [(1, .int 5), (0, .ref h0)]) E.1 E.2.1 dX0_init_44 hl (k := 0) rfl (by decide) (by decide) rfl (fun ls hl => ?_)
  refine lv_goto (tgt := 25) E.1 E.2.1 dX0_init_47 (by decide) ?_
  refine lv_iload_n E.1 E.2.1 dX0_init_25 rfl (lv_at hl 0 rfl) ?_
  refine lv_bipush (v := 20) E.1 E.2.1 dX0_init_26 (by decide) ?_
  refine lv_icmp_ge (tgt := 50) E.1 E.2.1 dX0_init_28 (by decide) (fun h => absurd h (by decide)) (fun _ => ?_)
  refine lv_aload_n E.1 E.2.1 dX0_init_31 rfl (lv_at hl 1 rfl) ?_
  refine m_get E G 0 (ci := 0) rfl 2 (C := RX0) (T := TX0) (N := 3) rfl (by decide) mw_fl_0_20 (v := .ref q1) rfl dX0_init_32 ?_
  refine lv_iload_n E.1 E.2.1 dX0_init_35 rfl (lv_at hl 0 rfl) ?_
  refine m_new E G 6 (C := RX6) (T := TX6) (N := 8) rfl fr_X6 mw_cl_0_18 mw_insta_6 mw_ini_6 (by decide) (by decide) dX0_init_36 (fun q22 H G => ?_)
  have G : mG D A s H locs ((q22, .inr (6, [.null, .null, .null, .null, .null, .null, .int 0, .int 0])) :: (h0, .inr (0, [.int 0, .int 0, .ref q1])) :: (q1, .inl (K 6, 20, .inr (.inr (.inr (.inr (va_up (va_up (va_up (va_up (va_up (fun _ => none) 0 (some q2)) 1 (some q6)) 2 (some q10)) 3 (some q14)) 4 (some q18))))))) :: ac21) := G.pm (pm_f _ _)
  refine lv_dup E.1 E.2.1 dX0_init_39 rfl ?_
  refine n_in E G hl (n_State l D K 219 (by decide : at_ 6 219 = true) q22) rfl mw_code_X6_init mw_ini_6 mw_mn_0_24 mw_inst_X6_init hd_X6_init ⟨by decide, by decide⟩ rfl (Nat.le_of_ble_eq_true rfl) ⟨by decide, by decide⟩ dX0_init_40 (fun g23 H locs hp24 G => ?_)
  have G : mG D A s H locs (Bk K 219 7 g23 ++ ((h0, .inr (0, [.int 0, .int 0, .ref q1])) :: (q1, .inl (K 6, 20, .inr (.inr (.inr (.inr (va_up (va_up (va_up (va_up (va_up (fun _ => none) 0 (some q2)) 1 (some q6)) 2 (some q10)) 3 (some q14)) 4 (some q18))))))) :: ac21)) := G.pm List.perm_append_comm
  refine m_aast E G 8 6 0 (ci := 6) (r := (RX6, TX6, 8)) rfl rfl (show some (g23 219, cellF K g23 219) = _ by rw [hp24, cf_o (j := 219) (ci := 6) (rfl : ro 219 = 6) (by decide)]) rfl (by unfold vp_in; decide) dX0_init_43 (fun H locs G => ?_)
  have G : mG D A s H locs (Bk K 219 7 g23 ++ ((h0, .inr (0, [.int 0, .int 0, .ref q1])) :: (q1, .inl (K 6, 20, .inr (.inr (.inr (.inr (va_up (va_up (va_up (va_up (va_up (va_up (fun _ => none) 0 (some q2)) 1 (some q6)) 2 (some q10)) 3 (some q14)) 4 (some q18)) 5 (some q22))))))) :: ac21)) := G
  have G : mG D A s H locs (((h0, .inr (0, [.int 0, .int 0, .ref q1])) :: (q1, .inl (K 6, 20, .inr (.inr (.inr (.inr (va_up (va_up (va_up (va_up (va_up (va_up (fun _ => none) 0 (some q2)) 1 (some q6)) 2 (some q10)) 3 (some q14)) 4 (some q18)) 5 (some q22))))))) :: ac21) ++ (Bk K 219 7 g23)) := G.pm List.perm_append_comm
  obtain ⟨ac25, hac25⟩ : ∃ w : va_W, w = ac21 ++ (Bk K 219 7 g23) := ⟨_, rfl⟩
  have G : mG D A s H locs ((h0, .inr (0, [.int 0, .int 0, .ref q1])) :: (q1, .inl (K 6, 20, .inr (.inr (.inr (.inr (va_up (va_up (va_up (va_up (va_up (va_up (fun _ => none) 0 (some q2)) 1 (some q6)) 2 (some q10)) 3 (some q14)) 4 (some q18)) 5 (some q22))))))) :: ac25) := by rw [hac25]; exact G
  refine lv_iinc (v := 6) (lv' := [(1, .int 6), (0, .ref h0)]) E.1 E.2.1 dX0_init_44 hl (k := 0) rfl (by decide) (by decide) rfl (fun ls hl => ?_)
  refine lv_goto (tgt := 25) E.1 E.2.1 dX0_init_47 (by decide) ?_
  refine lv_iload_n E.1 E.2.1 dX0_init_25 rfl (lv_at hl 0 rfl) ?_
  refine lv_bipush (v := 20) E.1 E.2.1 dX0_init_26 (by decide) ?_
  refine lv_icmp_ge (tgt := 50) E.1 E.2.1 dX0_init_28 (by decide) (fun h => absurd h (by decide)) (fun _ => ?_)
  refine lv_aload_n E.1 E.2.1 dX0_init_31 rfl (lv_at hl 1 rfl) ?_
  refine m_get E G 0 (ci := 0) rfl 2 (C := RX0) (T := TX0) (N := 3) rfl (by decide) mw_fl_0_20 (v := .ref q1) rfl dX0_init_32 ?_
  refine lv_iload_n E.1 E.2.1 dX0_init_35 rfl (lv_at hl 0 rfl) ?_
  refine m_new E G 6 (C := RX6) (T := TX6) (N := 8) rfl fr_X6 mw_cl_0_18 mw_insta_6 mw_ini_6 (by decide) (by decide) dX0_init_36 (fun q26 H G => ?_)
  have G : mG D A s H locs ((q26, .inr (6, [.null, .null, .null, .null, .null, .null, .int 0, .int 0])) :: (h0, .inr (0, [.int 0, .int 0, .ref q1])) :: (q1, .inl (K 6, 20, .inr (.inr (.inr (.inr (va_up (va_up (va_up (va_up (va_up (va_up (fun _ => none) 0 (some q2)) 1 (some q6)) 2 (some q10)) 3 (some q14)) 4 (some q18)) 5 (some q22))))))) :: ac25) := G.pm (pm_f _ _)
  refine lv_dup E.1 E.2.1 dX0_init_39 rfl ?_
  refine n_in E G hl (n_State l D K 226 (by decide : at_ 6 226 = true) q26) rfl mw_code_X6_init mw_ini_6 mw_mn_0_24 mw_inst_X6_init hd_X6_init ⟨by decide, by decide⟩ rfl (Nat.le_of_ble_eq_true rfl) ⟨by decide, by decide⟩ dX0_init_40 (fun g27 H locs hp28 G => ?_)
  have G : mG D A s H locs (Bk K 226 7 g27 ++ ((h0, .inr (0, [.int 0, .int 0, .ref q1])) :: (q1, .inl (K 6, 20, .inr (.inr (.inr (.inr (va_up (va_up (va_up (va_up (va_up (va_up (fun _ => none) 0 (some q2)) 1 (some q6)) 2 (some q10)) 3 (some q14)) 4 (some q18)) 5 (some q22))))))) :: ac25)) := G.pm List.perm_append_comm
  refine m_aast E G 8 6 0 (ci := 6) (r := (RX6, TX6, 8)) rfl rfl (show some (g27 226, cellF K g27 226) = _ by rw [hp28, cf_o (j := 226) (ci := 6) (rfl : ro 226 = 6) (by decide)]) rfl (by unfold vp_in; decide) dX0_init_43 (fun H locs G => ?_)
  have G : mG D A s H locs (Bk K 226 7 g27 ++ ((h0, .inr (0, [.int 0, .int 0, .ref q1])) :: (q1, .inl (K 6, 20, .inr (.inr (.inr (.inr (va_up (va_up (va_up (va_up (va_up (va_up (va_up (fun _ => none) 0 (some q2)) 1 (some q6)) 2 (some q10)) 3 (some q14)) 4 (some q18)) 5 (some q22)) 6 (some q26))))))) :: ac25)) := G
  have G : mG D A s H locs (((h0, .inr (0, [.int 0, .int 0, .ref q1])) :: (q1, .inl (K 6, 20, .inr (.inr (.inr (.inr (va_up (va_up (va_up (va_up (va_up (va_up (va_up (fun _ => none) 0 (some q2)) 1 (some q6)) 2 (some q10)) 3 (some q14)) 4 (some q18)) 5 (some q22)) 6 (some q26))))))) :: ac25) ++ (Bk K 226 7 g27)) := G.pm List.perm_append_comm
  obtain ⟨ac29, hac29⟩ : ∃ w : va_W, w = ac25 ++ (Bk K 226 7 g27) := ⟨_, rfl⟩
  have G : mG D A s H locs ((h0, .inr (0, [.int 0, .int 0, .ref q1])) :: (q1, .inl (K 6, 20, .inr (.inr (.inr (.inr (va_up (va_up (va_up (va_up (va_up (va_up (va_up (fun _ => none) 0 (some q2)) 1 (some q6)) 2 (some q10)) 3 (some q14)) 4 (some q18)) 5 (some q22)) 6 (some q26))))))) :: ac29) := by rw [hac29]; exact G
  refine lv_iinc (v := 7) (lv' := [(1, .int 7), (0, .ref h0)]) E.1 E.2.1 dX0_init_44 hl (k := 0) rfl (by decide) (by decide) rfl (fun ls hl => ?_)
  refine lv_goto (tgt := 25) E.1 E.2.1 dX0_init_47 (by decide) ?_
  refine lv_iload_n E.1 E.2.1 dX0_init_25 rfl (lv_at hl 0 rfl) ?_
  refine lv_bipush (v := 20) E.1 E.2.1 dX0_init_26 (by decide) ?_
  refine lv_icmp_ge (tgt := 50) E.1 E.2.1 dX0_init_28 (by decide) (fun h => absurd h (by decide)) (fun _ => ?_)
  refine lv_aload_n E.1 E.2.1 dX0_init_31 rfl (lv_at hl 1 rfl) ?_
  refine m_get E G 0 (ci := 0) rfl 2 (C := RX0) (T := TX0) (N := 3) rfl (by decide) mw_fl_0_20 (v := .ref q1) rfl dX0_init_32 ?_
  refine lv_iload_n E.1 E.2.1 dX0_init_35 rfl (lv_at hl 0 rfl) ?_
  refine m_new E G 6 (C := RX6) (T := TX6) (N := 8) rfl fr_X6 mw_cl_0_18 mw_insta_6 mw_ini_6 (by decide) (by decide) dX0_init_36 (fun q30 H G => ?_)
  have G : mG D A s H locs ((q30, .inr (6, [.null, .null, .null, .null, .null, .null, .int 0, .int 0])) :: (h0, .inr (0, [.int 0, .int 0, .ref q1])) :: (q1, .inl (K 6, 20, .inr (.inr (.inr (.inr (va_up (va_up (va_up (va_up (va_up (va_up (va_up (fun _ => none) 0 (some q2)) 1 (some q6)) 2 (some q10)) 3 (some q14)) 4 (some q18)) 5 (some q22)) 6 (some q26))))))) :: ac29) := G.pm (pm_f _ _)
  refine lv_dup E.1 E.2.1 dX0_init_39 rfl ?_
  refine n_in E G hl (n_State l D K 233 (by decide : at_ 6 233 = true) q30) rfl mw_code_X6_init mw_ini_6 mw_mn_0_24 mw_inst_X6_init hd_X6_init ⟨by decide, by decide⟩ rfl (Nat.le_of_ble_eq_true rfl) ⟨by decide, by decide⟩ dX0_init_40 (fun g31 H locs hp32 G => ?_)
  have G : mG D A s H locs (Bk K 233 7 g31 ++ ((h0, .inr (0, [.int 0, .int 0, .ref q1])) :: (q1, .inl (K 6, 20, .inr (.inr (.inr (.inr (va_up (va_up (va_up (va_up (va_up (va_up (va_up (fun _ => none) 0 (some q2)) 1 (some q6)) 2 (some q10)) 3 (some q14)) 4 (some q18)) 5 (some q22)) 6 (some q26))))))) :: ac29)) := G.pm List.perm_append_comm
  refine m_aast E G 8 6 0 (ci := 6) (r := (RX6, TX6, 8)) rfl rfl (show some (g31 233, cellF K g31 233) = _ by rw [hp32, cf_o (j := 233) (ci := 6) (rfl : ro 233 = 6) (by decide)]) rfl (by unfold vp_in; decide) dX0_init_43 (fun H locs G => ?_)
  have G : mG D A s H locs (Bk K 233 7 g31 ++ ((h0, .inr (0, [.int 0, .int 0, .ref q1])) :: (q1, .inl (K 6, 20, .inr (.inr (.inr (.inr (va_up (va_up (va_up (va_up (va_up (va_up (va_up (va_up (fun _ => none) 0 (some q2)) 1 (some q6)) 2 (some q10)) 3 (some q14)) 4 (some q18)) 5 (some q22)) 6 (some q26)) 7 (some q30))))))) :: ac29)) := G
  have G : mG D A s H locs (((h0, .inr (0, [.int 0, .int 0, .ref q1])) :: (q1, .inl (K 6, 20, .inr (.inr (.inr (.inr (va_up (va_up (va_up (va_up (va_up (va_up (va_up (va_up (fun _ => none) 0 (some q2)) 1 (some q6)) 2 (some q10)) 3 (some q14)) 4 (some q18)) 5 (some q22)) 6 (some q26)) 7 (some q30))))))) :: ac29) ++ (Bk K 233 7 g31)) := G.pm List.perm_append_comm
  obtain ⟨ac33, hac33⟩ : ∃ w : va_W, w = ac29 ++ (Bk K 233 7 g31) := ⟨_, rfl⟩
  have G : mG D A s H locs ((h0, .inr (0, [.int 0, .int 0, .ref q1])) :: (q1, .inl (K 6, 20, .inr (.inr (.inr (.inr (va_up (va_up (va_up (va_up (va_up (va_up (va_up (va_up (fun _ => none) 0 (some q2)) 1 (some q6)) 2 (some q10)) 3 (some q14)) 4 (some q18)) 5 (some q22)) 6 (some q26)) 7 (some q30))))))) :: ac33) := by rw [hac33]; exact G
  refine lv_iinc (v := 8) (lv' := [(1, .int 8), (0, .ref h0)]) E.1 E.2.1 dX0_init_44 hl (k := 0) rfl (by decide) (by decide) rfl (fun ls hl => ?_)
  refine lv_goto (tgt := 25) E.1 E.2.1 dX0_init_47 (by decide) ?_
  refine lv_iload_n E.1 E.2.1 dX0_init_25 rfl (lv_at hl 0 rfl) ?_
  refine lv_bipush (v := 20) E.1 E.2.1 dX0_init_26 (by decide) ?_
  refine lv_icmp_ge (tgt := 50) E.1 E.2.1 dX0_init_28 (by decide) (fun h => absurd h (by decide)) (fun _ => ?_)
  refine lv_aload_n E.1 E.2.1 dX0_init_31 rfl (lv_at hl 1 rfl) ?_
  refine m_get E G 0 (ci := 0) rfl 2 (C := RX0) (T := TX0) (N := 3) rfl (by decide) mw_fl_0_20 (v := .ref q1) rfl dX0_init_32 ?_
  refine lv_iload_n E.1 E.2.1 dX0_init_35 rfl (lv_at hl 0 rfl) ?_
  refine m_new E G 6 (C := RX6) (T := TX6) (N := 8) rfl fr_X6 mw_cl_0_18 mw_insta_6 mw_ini_6 (by decide) (by decide) dX0_init_36 (fun q34 H G => ?_)
  have G : mG D A s H locs ((q34, .inr (6, [.null, .null, .null, .null, .null, .null, .int 0, .int 0])) :: (h0, .inr (0, [.int 0, .int 0, .ref q1])) :: (q1, .inl (K 6, 20, .inr (.inr (.inr (.inr (va_up (va_up (va_up (va_up (va_up (va_up (va_up (va_up (fun _ => none) 0 (some q2)) 1 (some q6)) 2 (some q10)) 3 (some q14)) 4 (some q18)) 5 (some q22)) 6 (some q26)) 7 (some q30))))))) :: ac33) := G.pm (pm_f _ _)
  refine lv_dup E.1 E.2.1 dX0_init_39 rfl ?_
  refine n_in E G hl (n_State l D K 240 (by decide : at_ 6 240 = true) q34) rfl mw_code_X6_init mw_ini_6 mw_mn_0_24 mw_inst_X6_init hd_X6_init ⟨by decide, by decide⟩ rfl (Nat.le_of_ble_eq_true rfl) ⟨by decide, by decide⟩ dX0_init_40 (fun g35 H locs hp36 G => ?_)
  have G : mG D A s H locs (Bk K 240 7 g35 ++ ((h0, .inr (0, [.int 0, .int 0, .ref q1])) :: (q1, .inl (K 6, 20, .inr (.inr (.inr (.inr (va_up (va_up (va_up (va_up (va_up (va_up (va_up (va_up (fun _ => none) 0 (some q2)) 1 (some q6)) 2 (some q10)) 3 (some q14)) 4 (some q18)) 5 (some q22)) 6 (some q26)) 7 (some q30))))))) :: ac33)) := G.pm List.perm_append_comm
  refine m_aast E G 8 6 0 (ci := 6) (r := (RX6, TX6, 8)) rfl rfl (show some (g35 240, cellF K g35 240) = _ by rw [hp36, cf_o (j := 240) (ci := 6) (rfl : ro 240 = 6) (by decide)]) rfl (by unfold vp_in; decide) dX0_init_43 (fun H locs G => ?_)
  have G : mG D A s H locs (Bk K 240 7 g35 ++ ((h0, .inr (0, [.int 0, .int 0, .ref q1])) :: (q1, .inl (K 6, 20, .inr (.inr (.inr (.inr (va_up (va_up (va_up (va_up (va_up (va_up (va_up (va_up (va_up (fun _ => none) 0 (some q2)) 1 (some q6)) 2 (some q10)) 3 (some q14)) 4 (some q18)) 5 (some q22)) 6 (some q26)) 7 (some q30)) 8 (some q34))))))) :: ac33)) := G
  have G : mG D A s H locs (((h0, .inr (0, [.int 0, .int 0, .ref q1])) :: (q1, .inl (K 6, 20, .inr (.inr (.inr (.inr (va_up (va_up (va_up (va_up (va_up (va_up (va_up (va_up (va_up (fun _ => none) 0 (some q2)) 1 (some q6)) 2 (some q10)) 3 (some q14)) 4 (some q18)) 5 (some q22)) 6 (some q26)) 7 (some q30)) 8 (some q34))))))) :: ac33) ++ (Bk K 240 7 g35)) := G.pm List.perm_append_comm
  obtain ⟨ac37, hac37⟩ : ∃ w : va_W, w = ac33 ++ (Bk K 240 7 g35) := ⟨_, rfl⟩
  have G : mG D A s H locs ((h0, .inr (0, [.int 0, .int 0, .ref q1])) :: (q1, .inl (K 6, 20, .inr (.inr (.inr (.inr (va_up (va_up (va_up (va_up (va_up (va_up (va_up (va_up (va_up (fun _ => none) 0 (some q2)) 1 (some q6)) 2 (some q10)) 3 (some q14)) 4 (some q18)) 5 (some q22)) 6 (some q26)) 7 (some q30)) 8 (some q34))))))) :: ac37) := by rw [hac37]; exact G
  refine lv_iinc (v := 9) (lv' := [(1, .int 9), (0, .ref h0)]) E.1 E.2.1 dX0_init_44 hl (k := 0) rfl (by decide) (by decide) rfl (fun ls hl => ?_)
  refine lv_goto (tgt := 25) E.1 E.2.1 dX0_init_47 (by decide) ?_
  refine lv_iload_n E.1 E.2.1 dX0_init_25 rfl (lv_at hl 0 rfl) ?_
  refine lv_bipush (v := 20) E.1 E.2.1 dX0_init_26 (by decide) ?_
  refine lv_icmp_ge (tgt := 50) E.1 E.2.1 dX0_init_28 (by decide) (fun h => absurd h (by decide)) (fun _ => ?_)
  refine lv_aload_n E.1 E.2.1 dX0_init_31 rfl (lv_at hl 1 rfl) ?_
  refine m_get E G 0 (ci := 0) rfl 2 (C := RX0) (T := TX0) (N := 3) rfl (by decide) mw_fl_0_20 (v := .ref q1) rfl dX0_init_32 ?_
  refine lv_iload_n E.1 E.2.1 dX0_init_35 rfl (lv_at hl 0 rfl) ?_
  refine m_new E G 6 (C := RX6) (T := TX6) (N := 8) rfl fr_X6 mw_cl_0_18 mw_insta_6 mw_ini_6 (by decide) (by decide) dX0_init_36 (fun q38 H G => ?_)
  have G : mG D A s H locs ((q38, .inr (6, [.null, .null, .null, .null, .null, .null, .int 0, .int 0])) :: (h0, .inr (0, [.int 0, .int 0, .ref q1])) :: (q1, .inl (K 6, 20, .inr (.inr (.inr (.inr (va_up (va_up (va_up (va_up (va_up (va_up (va_up (va_up (va_up (fun _ => none) 0 (some q2)) 1 (some q6)) 2 (some q10)) 3 (some q14)) 4 (some q18)) 5 (some q22)) 6 (some q26)) 7 (some q30)) 8 (some q34))))))) :: ac37) := G.pm (pm_f _ _)
  refine lv_dup E.1 E.2.1 dX0_init_39 rfl ?_
  refine n_in E G hl (n_State l D K 247 (by decide : at_ 6 247 = true) q38) rfl mw_code_X6_init mw_ini_6 mw_mn_0_24 mw_inst_X6_init hd_X6_init ⟨by decide, by decide⟩ rfl (Nat.le_of_ble_eq_true rfl) ⟨by decide, by decide⟩ dX0_init_40 (fun g39 H locs hp40 G => ?_)
  have G : mG D A s H locs (Bk K 247 7 g39 ++ ((h0, .inr (0, [.int 0, .int 0, .ref q1])) :: (q1, .inl (K 6, 20, .inr (.inr (.inr (.inr (va_up (va_up (va_up (va_up (va_up (va_up (va_up (va_up (va_up (fun _ => none) 0 (some q2)) 1 (some q6)) 2 (some q10)) 3 (some q14)) 4 (some q18)) 5 (some q22)) 6 (some q26)) 7 (some q30)) 8 (some q34))))))) :: ac37)) := G.pm List.perm_append_comm
  refine m_aast E G 8 6 0 (ci := 6) (r := (RX6, TX6, 8)) rfl rfl (show some (g39 247, cellF K g39 247) = _ by rw [hp40, cf_o (j := 247) (ci := 6) (rfl : ro 247 = 6) (by decide)]) rfl (by unfold vp_in; decide) dX0_init_43 (fun H locs G => ?_)
  have G : mG D A s H locs (Bk K 247 7 g39 ++ ((h0, .inr (0, [.int 0, .int 0, .ref q1])) :: (q1, .inl (K 6, 20, .inr (.inr (.inr (.inr (va_up (va_up (va_up (va_up (va_up (va_up (va_up (va_up (va_up (va_up (fun _ => none) 0 (some q2)) 1 (some q6)) 2 (some q10)) 3 (some q14)) 4 (some q18)) 5 (some q22)) 6 (some q26)) 7 (some q30)) 8 (some q34)) 9 (some q38))))))) :: ac37)) := G
  have G : mG D A s H locs (((h0, .inr (0, [.int 0, .int 0, .ref q1])) :: (q1, .inl (K 6, 20, .inr (.inr (.inr (.inr (va_up (va_up (va_up (va_up (va_up (va_up (va_up (va_up (va_up (va_up (fun _ => none) 0 (some q2)) 1 (some q6)) 2 (some q10)) 3 (some q14)) 4 (some q18)) 5 (some q22)) 6 (some q26)) 7 (some q30)) 8 (some q34)) 9 (some q38))))))) :: ac37) ++ (Bk K 247 7 g39)) := G.pm List.perm_append_comm
  obtain ⟨ac41, hac41⟩ : ∃ w : va_W, w = ac37 ++ (Bk K 247 7 g39) := ⟨_, rfl⟩
  have G : mG D A s H locs ((h0, .inr (0, [.int 0, .int 0, .ref q1])) :: (q1, .inl (K 6, 20, .inr (.inr (.inr (.inr (va_up (va_up (va_up (va_up (va_up (va_up (va_up (va_up (va_up (va_up (fun _ => none) 0 (some q2)) 1 (some q6)) 2 (some q10)) 3 (some q14)) 4 (some q18)) 5 (some q22)) 6 (some q26)) 7 (some q30)) 8 (some q34)) 9 (some q38))))))) :: ac41) := by rw [hac41]; exact G
  refine lv_iinc (v := 10) (lv' := [(1, .int 10), (0, .ref h0)]) E.1 E.2.1 dX0_init_44 hl (k := 0) rfl (by decide) (by decide) rfl (fun ls hl => ?_)
  refine lv_goto (tgt := 25) E.1 E.2.1 dX0_init_47 (by decide) ?_
  refine lv_iload_n E.1 E.2.1 dX0_init_25 rfl (lv_at hl 0 rfl) ?_
  refine lv_bipush (v := 20) E.1 E.2.1 dX0_init_26 (by decide) ?_
  refine lv_icmp_ge (tgt := 50) E.1 E.2.1 dX0_init_28 (by decide) (fun h => absurd h (by decide)) (fun _ => ?_)
  refine lv_aload_n E.1 E.2.1 dX0_init_31 rfl (lv_at hl 1 rfl) ?_
  refine m_get E G 0 (ci := 0) rfl 2 (C := RX0) (T := TX0) (N := 3) rfl (by decide) mw_fl_0_20 (v := .ref q1) rfl dX0_init_32 ?_
  refine lv_iload_n E.1 E.2.1 dX0_init_35 rfl (lv_at hl 0 rfl) ?_
  refine m_new E G 6 (C := RX6) (T := TX6) (N := 8) rfl fr_X6 mw_cl_0_18 mw_insta_6 mw_ini_6 (by decide) (by decide) dX0_init_36 (fun q42 H G => ?_)
  have G : mG D A s H locs ((q42, .inr (6, [.null, .null, .null, .null, .null, .null, .int 0, .int 0])) :: (h0, .inr (0, [.int 0, .int 0, .ref q1])) :: (q1, .inl (K 6, 20, .inr (.inr (.inr (.inr (va_up (va_up (va_up (va_up (va_up (va_up (va_up (va_up (va_up (va_up (fun _ => none) 0 (some q2)) 1 (some q6)) 2 (some q10)) 3 (some q14)) 4 (some q18)) 5 (some q22)) 6 (some q26)) 7 (some q30)) 8 (some q34)) 9 (some q38))))))) :: ac41) := G.pm (pm_f _ _)
  refine lv_dup E.1 E.2.1 dX0_init_39 rfl ?_
  refine n_in E G hl (n_State l D K 254 (by decide : at_ 6 254 = true) q42) rfl mw_code_X6_init mw_ini_6 mw_mn_0_24 mw_inst_X6_init hd_X6_init ⟨by decide, by decide⟩ rfl (Nat.le_of_ble_eq_true rfl) ⟨by decide, by decide⟩ dX0_init_40 (fun g43 H locs hp44 G => ?_)
  have G : mG D A s H locs (Bk K 254 7 g43 ++ ((h0, .inr (0, [.int 0, .int 0, .ref q1])) :: (q1, .inl (K 6, 20, .inr (.inr (.inr (.inr (va_up (va_up (va_up (va_up (va_up (va_up (va_up (va_up (va_up (va_up (fun _ => none) 0 (some q2)) 1 (some q6)) 2 (some q10)) 3 (some q14)) 4 (some q18)) 5 (some q22)) 6 (some q26)) 7 (some q30)) 8 (some q34)) 9 (some q38))))))) :: ac41)) := G.pm List.perm_append_comm
  refine m_aast E G 8 6 0 (ci := 6) (r := (RX6, TX6, 8)) rfl rfl (show some (g43 254, cellF K g43 254) = _ by rw [hp44, cf_o (j := 254) (ci := 6) (rfl : ro 254 = 6) (by decide)]) rfl (by unfold vp_in; decide) dX0_init_43 (fun H locs G => ?_)
  have G : mG D A s H locs (Bk K 254 7 g43 ++ ((h0, .inr (0, [.int 0, .int 0, .ref q1])) :: (q1, .inl (K 6, 20, .inr (.inr (.inr (.inr (va_up (va_up (va_up (va_up (va_up (va_up (va_up (va_up (va_up (va_up (va_up (fun _ => none) 0 (some q2)) 1 (some q6)) 2 (some q10)) 3 (some q14)) 4 (some q18)) 5 (some q22)) 6 (some q26)) 7 (some q30)) 8 (some q34)) 9 (some q38)) 10 (some q42))))))) :: ac41)) := G
  have G : mG D A s H locs (((h0, .inr (0, [.int 0, .int 0, .ref q1])) :: (q1, .inl (K 6, 20, .inr (.inr (.inr (.inr (va_up (va_up (va_up (va_up (va_up (va_up (va_up (va_up (va_up (va_up (va_up (fun _ => none) 0 (some q2)) 1 (some q6)) 2 (some q10)) 3 (some q14)) 4 (some q18)) 5 (some q22)) 6 (some q26)) 7 (some q30)) 8 (some q34)) 9 (some q38)) 10 (some q42))))))) :: ac41) ++ (Bk K 254 7 g43)) := G.pm List.perm_append_comm
  obtain ⟨ac45, hac45⟩ : ∃ w : va_W, w = ac41 ++ (Bk K 254 7 g43) := ⟨_, rfl⟩
  have G : mG D A s H locs ((h0, .inr (0, [.int 0, .int 0, .ref q1])) :: (q1, .inl (K 6, 20, .inr (.inr (.inr (.inr (va_up (va_up (va_up (va_up (va_up (va_up (va_up (va_up (va_up (va_up (va_up (fun _ => none) 0 (some q2)) 1 (some q6)) 2 (some q10)) 3 (some q14)) 4 (some q18)) 5 (some q22)) 6 (some q26)) 7 (some q30)) 8 (some q34)) 9 (some q38)) 10 (some q42))))))) :: ac45) := by rw [hac45]; exact G
  refine lv_iinc (v := 11) (lv' := [(1, .int 11), (0, .ref h0)]) E.1 E.2.1 dX0_init_44 hl (k := 0) rfl (by decide) (by decide) rfl (fun ls hl => ?_)
  refine lv_goto (tgt := 25) E.1 E.2.1 dX0_init_47 (by decide) ?_
  refine lv_iload_n E.1 E.2.1 dX0_init_25 rfl (lv_at hl 0 rfl) ?_
  refine lv_bipush (v := 20) E.1 E.2.1 dX0_init_26 (by decide) ?_
  refine lv_icmp_ge (tgt := 50) E.1 E.2.1 dX0_init_28 (by decide) (fun h => absurd h (by decide)) (fun _ => ?_)
  refine lv_aload_n E.1 E.2.1 dX0_init_31 rfl (lv_at hl 1 rfl) ?_
  refine m_get E G 0 (ci := 0) rfl 2 (C := RX0) (T := TX0) (N := 3) rfl (by decide) mw_fl_0_20 (v := .ref q1) rfl dX0_init_32 ?_
  refine lv_iload_n E.1 E.2.1 dX0_init_35 rfl (lv_at hl 0 rfl) ?_
  refine m_new E G 6 (C := RX6) (T := TX6) (N := 8) rfl fr_X6 mw_cl_0_18 mw_insta_6 mw_ini_6 (by decide) (by decide) dX0_init_36 (fun q46 H G => ?_)
  have G : mG D A s H locs ((q46, .inr (6, [.null, .null, .null, .null, .null, .null, .int 0, .int 0])) :: (h0, .inr (0, [.int 0, .int 0, .ref q1])) :: (q1, .inl (K 6, 20, .inr (.inr (.inr (.inr (va_up (va_up (va_up (va_up (va_up (va_up (va_up (va_up (va_up (va_up (va_up (fun _ => none) 0 (some q2)) 1 (some q6)) 2 (some q10)) 3 (some q14)) 4 (some q18)) 5 (some q22)) 6 (some q26)) 7 (some q30)) 8 (some q34)) 9 (some q38)) 10 (some q42))))))) :: ac45) := G.pm (pm_f _ _)
  refine lv_dup E.1 E.2.1 dX0_init_39 rfl ?_
  refine n_in E G hl (n_State l D K 261 (by decide : at_ 6 261 = true) q46) rfl mw_code_X6_init mw_ini_6 mw_mn_0_24 mw_inst_X6_init hd_X6_init ⟨by decide, by decide⟩ rfl (Nat.le_of_ble_eq_true rfl) ⟨by decide, by decide⟩ dX0_init_40 (fun g47 H locs hp48 G => ?_)
  have G : mG D A s H locs (Bk K 261 7 g47 ++ ((h0, .inr (0, [.int 0, .int 0, .ref q1])) :: (q1, .inl (K 6, 20, .inr (.inr (.inr (.inr (va_up (va_up (va_up (va_up (va_up (va_up (va_up (va_up (va_up (va_up (va_up (fun _ => none) 0 (some q2)) 1 (some q6)) 2 (some q10)) 3 (some q14)) 4 (some q18)) 5 (some q22)) 6 (some q26)) 7 (some q30)) 8 (some q34)) 9 (some q38)) 10 (some q42))))))) :: ac45)) := G.pm List.perm_append_comm
  refine m_aast E G 8 6 0 (ci := 6) (r := (RX6, TX6, 8)) rfl rfl (show some (g47 261, cellF K g47 261) = _ by rw [hp48, cf_o (j := 261) (ci := 6) (rfl : ro 261 = 6) (by decide)]) rfl (by unfold vp_in; decide) dX0_init_43 (fun H locs G => ?_)
  have G : mG D A s H locs (Bk K 261 7 g47 ++ ((h0, .inr (0, [.int 0, .int 0, .ref q1])) :: (q1, .inl (K 6, 20, .inr (.inr (.inr (.inr (va_up (va_up (va_up (va_up (va_up (va_up (va_up (va_up (va_up (va_up (va_up (va_up (fun _ => none) 0 (some q2)) 1 (some q6)) 2 (some q10)) 3 (some q14)) 4 (some q18)) 5 (some q22)) 6 (some q26)) 7 (some q30)) 8 (some q34)) 9 (some q38)) 10 (some q42)) 11 (some q46))))))) :: ac45)) := G
  have G : mG D A s H locs (((h0, .inr (0, [.int 0, .int 0, .ref q1])) :: (q1, .inl (K 6, 20, .inr (.inr (.inr (.inr (va_up (va_up (va_up (va_up (va_up (va_up (va_up (va_up (va_up (va_up (va_up (va_up (fun _ => none) 0 (some q2)) 1 (some q6)) 2 (some q10)) 3 (some q14)) 4 (some q18)) 5 (some q22)) 6 (some q26)) 7 (some q30)) 8 (some q34)) 9 (some q38)) 10 (some q42)) 11 (some q46))))))) :: ac45) ++ (Bk K 261 7 g47)) := G.pm List.perm_append_comm
  obtain ⟨ac49, hac49⟩ : ∃ w : va_W, w = ac45 ++ (Bk K 261 7 g47) := ⟨_, rfl⟩
  have G : mG D A s H locs ((h0, .inr (0, [.int 0, .int 0, .ref q1])) :: (q1, .inl (K 6, 20, .inr (.inr (.inr (.inr (va_up (va_up (va_up (va_up (va_up (va_up (va_up (va_up (va_up (va_up (va_up (va_up (fun _ => none) 0 (some q2)) 1 (some q6)) 2 (some q10)) 3 (some q14)) 4 (some q18)) 5 (some q22)) 6 (some q26)) 7 (some q30)) 8 (some q34)) 9 (some q38)) 10 (some q42)) 11 (some q46))))))) :: ac49) := by rw [hac49]; exact G
  refine lv_iinc (v := 12) (lv' := [(1, .int 12), (0, .ref h0)]) E.1 E.2.1 dX0_init_44 hl (k := 0) rfl (by decide) (by decide) rfl (fun ls hl => ?_)
  refine lv_goto (tgt := 25) E.1 E.2.1 dX0_init_47 (by decide) ?_
  refine lv_iload_n E.1 E.2.1 dX0_init_25 rfl (lv_at hl 0 rfl) ?_
  refine lv_bipush (v := 20) E.1 E.2.1 dX0_init_26 (by decide) ?_
  refine lv_icmp_ge (tgt := 50) E.1 E.2.1 dX0_init_28 (by decide) (fun h => absurd h (by decide)) (fun _ => ?_)
  refine lv_aload_n E.1 E.2.1 dX0_init_31 rfl (lv_at hl 1 rfl) ?_
  refine m_get E G 0 (ci := 0) rfl 2 (C := RX0) (T := TX0) (N := 3) rfl (by decide) mw_fl_0_20 (v := .ref q1) rfl dX0_init_32 ?_
  refine lv_iload_n E.1 E.2.1 dX0_init_35 rfl (lv_at hl 0 rfl) ?_
  refine m_new E G 6 (C := RX6) (T := TX6) (N := 8) rfl fr_X6 mw_cl_0_18 mw_insta_6 mw_ini_6 (by decide) (by decide) dX0_init_36 (fun q50 H G => ?_)
  have G : mG D A s H locs ((q50, .inr (6, [.null, .null, .null, .null, .null, .null, .int 0, .int 0])) :: (h0, .inr (0, [.int 0, .int 0, .ref q1])) :: (q1, .inl (K 6, 20, .inr (.inr (.inr (.inr (va_up (va_up (va_up (va_up (va_up (va_up (va_up (va_up (va_up (va_up (va_up (va_up (fun _ => none) 0 (some q2)) 1 (some q6)) 2 (some q10)) 3 (some q14)) 4 (some q18)) 5 (some q22)) 6 (some q26)) 7 (some q30)) 8 (some q34)) 9 (some q38)) 10 (some q42)) 11 (some q46))))))) :: ac49) := G.pm (pm_f _ _)
  refine lv_dup E.1 E.2.1 dX0_init_39 rfl ?_
  refine n_in E G hl (n_State l D K 268 (by decide : at_ 6 268 = true) q50) rfl mw_code_X6_init mw_ini_6 mw_mn_0_24 mw_inst_X6_init hd_X6_init ⟨by decide, by decide⟩ rfl (Nat.le_of_ble_eq_true rfl) ⟨by decide, by decide⟩ dX0_init_40 (fun g51 H locs hp52 G => ?_)
  have G : mG D A s H locs (Bk K 268 7 g51 ++ ((h0, .inr (0, [.int 0, .int 0, .ref q1])) :: (q1, .inl (K 6, 20, .inr (.inr (.inr (.inr (va_up (va_up (va_up (va_up (va_up (va_up (va_up (va_up (va_up (va_up (va_up (va_up (fun _ => none) 0 (some q2)) 1 (some q6)) 2 (some q10)) 3 (some q14)) 4 (some q18)) 5 (some q22)) 6 (some q26)) 7 (some q30)) 8 (some q34)) 9 (some q38)) 10 (some q42)) 11 (some q46))))))) :: ac49)) := G.pm List.perm_append_comm
  refine m_aast E G 8 6 0 (ci := 6) (r := (RX6, TX6, 8)) rfl rfl (show some (g51 268, cellF K g51 268) = _ by rw [hp52, cf_o (j := 268) (ci := 6) (rfl : ro 268 = 6) (by decide)]) rfl (by unfold vp_in; decide) dX0_init_43 (fun H locs G => ?_)
  have G : mG D A s H locs (Bk K 268 7 g51 ++ ((h0, .inr (0, [.int 0, .int 0, .ref q1])) :: (q1, .inl (K 6, 20, .inr (.inr (.inr (.inr (va_up (va_up (va_up (va_up (va_up (va_up (va_up (va_up (va_up (va_up (va_up (va_up (va_up (fun _ => none) 0 (some q2)) 1 (some q6)) 2 (some q10)) 3 (some q14)) 4 (some q18)) 5 (some q22)) 6 (some q26)) 7 (some q30)) 8 (some q34)) 9 (some q38)) 10 (some q42)) 11 (some q46)) 12 (some q50))))))) :: ac49)) := G
  have G : mG D A s H locs (((h0, .inr (0, [.int 0, .int 0, .ref q1])) :: (q1, .inl (K 6, 20, .inr (.inr (.inr (.inr (va_up (va_up (va_up (va_up (va_up (va_up (va_up (va_up (va_up (va_up (va_up (va_up (va_up (fun _ => none) 0 (some q2)) 1 (some q6)) 2 (some q10)) 3 (some q14)) 4 (some q18)) 5 (some q22)) 6 (some q26)) 7 (some q30)) 8 (some q34)) 9 (some q38)) 10 (some q42)) 11 (some q46)) 12 (some q50))))))) :: ac49) ++ (Bk K 268 7 g51)) := G.pm List.perm_append_comm
  obtain ⟨ac53, hac53⟩ : ∃ w : va_W, w = ac49 ++ (Bk K 268 7 g51) := ⟨_, rfl⟩
  have G : mG D A s H locs ((h0, .inr (0, [.int 0, .int 0, .ref q1])) :: (q1, .inl (K 6, 20, .inr (.inr (.inr (.inr (va_up (va_up (va_up (va_up (va_up (va_up (va_up (va_up (va_up (va_up (va_up (va_up (va_up (fun _ => none) 0 (some q2)) 1 (some q6)) 2 (some q10)) 3 (some q14)) 4 (some q18)) 5 (some q22)) 6 (some q26)) 7 (some q30)) 8 (some q34)) 9 (some q38)) 10 (some q42)) 11 (some q46)) 12 (some q50))))))) :: ac53) := by rw [hac53]; exact G
  refine lv_iinc (v := 13) (lv' := [(1, .int 13), (0, .ref h0)]) E.1 E.2.1 dX0_init_44 hl (k := 0) rfl (by decide) (by decide) rfl (fun ls hl => ?_)
  refine lv_goto (tgt := 25) E.1 E.2.1 dX0_init_47 (by decide) ?_
  refine lv_iload_n E.1 E.2.1 dX0_init_25 rfl (lv_at hl 0 rfl) ?_
  refine lv_bipush (v := 20) E.1 E.2.1 dX0_init_26 (by decide) ?_
  refine lv_icmp_ge (tgt := 50) E.1 E.2.1 dX0_init_28 (by decide) (fun h => absurd h (by decide)) (fun _ => ?_)
  refine lv_aload_n E.1 E.2.1 dX0_init_31 rfl (lv_at hl 1 rfl) ?_
  refine m_get E G 0 (ci := 0) rfl 2 (C := RX0) (T := TX0) (N := 3) rfl (by decide) mw_fl_0_20 (v := .ref q1) rfl dX0_init_32 ?_
  refine lv_iload_n E.1 E.2.1 dX0_init_35 rfl (lv_at hl 0 rfl) ?_
  refine m_new E G 6 (C := RX6) (T := TX6) (N := 8) rfl fr_X6 mw_cl_0_18 mw_insta_6 mw_ini_6 (by decide) (by decide) dX0_init_36 (fun q54 H G => ?_)
  have G : mG D A s H locs ((q54, .inr (6, [.null, .null, .null, .null, .null, .null, .int 0, .int 0])) :: (h0, .inr (0, [.int 0, .int 0, .ref q1])) :: (q1, .inl (K 6, 20, .inr (.inr (.inr (.inr (va_up (va_up (va_up (va_up (va_up (va_up (va_up (va_up (va_up (va_up (va_up (va_up (va_up (fun _ => none) 0 (some q2)) 1 (some q6)) 2 (some q10)) 3 (some q14)) 4 (some q18)) 5 (some q22)) 6 (some q26)) 7 (some q30)) 8 (some q34)) 9 (some q38)) 10 (some q42)) 11 (some q46)) 12 (some q50))))))) :: ac53) := G.pm (pm_f _ _)
  refine lv_dup E.1 E.2.1 dX0_init_39 rfl ?_
  refine n_in E G hl (n_State l D K 275 (by decide : at_ 6 275 = true) q54) rfl mw_code_X6_init mw_ini_6 mw_mn_0_24 mw_inst_X6_init hd_X6_init ⟨by decide, by decide⟩ rfl (Nat.le_of_ble_eq_true rfl) ⟨by decide, by decide⟩ dX0_init_40 (fun g55 H locs hp56 G => ?_)
  have G : mG D A s H locs (Bk K 275 7 g55 ++ ((h0, .inr (0, [.int 0, .int 0, .ref q1])) :: (q1, .inl (K 6, 20, .inr (.inr (.inr (.inr (va_up (va_up (va_up (va_up (va_up (va_up (va_up (va_up (va_up (va_up (va_up (va_up (va_up (fun _ => none) 0 (some q2)) 1 (some q6)) 2 (some q10)) 3 (some q14)) 4 (some q18)) 5 (some q22)) 6 (some q26)) 7 (some q30)) 8 (some q34)) 9 (some q38)) 10 (some q42)) 11 (some q46)) 12 (some q50))))))) :: ac53)) := G.pm List.perm_append_comm
  refine m_aast E G 8 6 0 (ci := 6) (r := (RX6, TX6, 8)) rfl rfl (show some (g55 275, cellF K g55 275) = _ by rw [hp56, cf_o (j := 275) (ci := 6) (rfl : ro 275 = 6) (by decide)]) rfl (by unfold vp_in; decide) dX0_init_43 (fun H locs G => ?_)
  have G : mG D A s H locs (Bk K 275 7 g55 ++ ((h0, .inr (0, [.int 0, .int 0, .ref q1])) :: (q1, .inl (K 6, 20, .inr (.inr (.inr (.inr (va_up (va_up (va_up (va_up (va_up (va_up (va_up (va_up (va_up (va_up (va_up (va_up (va_up (va_up (fun _ => none) 0 (some q2)) 1 (some q6)) 2 (some q10)) 3 (some q14)) 4 (some q18)) 5 (some q22)) 6 (some q26)) 7 (some q30)) 8 (some q34)) 9 (some q38)) 10 (some q42)) 11 (some q46)) 12 (some q50)) 13 (some q54))))))) :: ac53)) := G
  have G : mG D A s H locs (((h0, .inr (0, [.int 0, .int 0, .ref q1])) :: (q1, .inl (K 6, 20, .inr (.inr (.inr (.inr (va_up (va_up (va_up (va_up (va_up (va_up (va_up (va_up (va_up (va_up (va_up (va_up (va_up (va_up (fun _ => none) 0 (some q2)) 1 (some q6)) 2 (some q10)) 3 (some q14)) 4 (some q18)) 5 (some q22)) 6 (some q26)) 7 (some q30)) 8 (some q34)) 9 (some q38)) 10 (some q42)) 11 (some q46)) 12 (some q50)) 13 (some q54))))))) :: ac53) ++ (Bk K 275 7 g55)) := G.pm List.perm_append_comm
  obtain ⟨ac57, hac57⟩ : ∃ w : va_W, w = ac53 ++ (Bk K 275 7 g55) := ⟨_, rfl⟩
  have G : mG D A s H locs ((h0, .inr (0, [.int 0, .int 0, .ref q1])) :: (q1, .inl (K 6, 20, .inr (.inr (.inr (.inr (va_up (va_up (va_up (va_up (va_up (va_up (va_up (va_up (va_up (va_up (va_up (va_up (va_up (va_up (fun _ => none) 0 (some q2)) 1 (some q6)) 2 (some q10)) 3 (some q14)) 4 (some q18)) 5 (some q22)) 6 (some q26)) 7 (some q30)) 8 (some q34)) 9 (some q38)) 10 (some q42)) 11 (some q46)) 12 (some q50)) 13 (some q54))))))) :: ac57) := by rw [hac57]; exact G
  refine lv_iinc (v := 14) (lv' := [(1, .int 14), (0, .ref h0)]) E.1 E.2.1 dX0_init_44 hl (k := 0) rfl (by decide) (by decide) rfl (fun ls hl => ?_)
  refine lv_goto (tgt := 25) E.1 E.2.1 dX0_init_47 (by decide) ?_
  refine lv_iload_n E.1 E.2.1 dX0_init_25 rfl (lv_at hl 0 rfl) ?_
  refine lv_bipush (v := 20) E.1 E.2.1 dX0_init_26 (by decide) ?_
  refine lv_icmp_ge (tgt := 50) E.1 E.2.1 dX0_init_28 (by decide) (fun h => absurd h (by decide)) (fun _ => ?_)
  refine lv_aload_n E.1 E.2.1 dX0_init_31 rfl (lv_at hl 1 rfl) ?_
  refine m_get E G 0 (ci := 0) rfl 2 (C := RX0) (T := TX0) (N := 3) rfl (by decide) mw_fl_0_20 (v := .ref q1) rfl dX0_init_32 ?_
  refine lv_iload_n E.1 E.2.1 dX0_init_35 rfl (lv_at hl 0 rfl) ?_
  refine m_new E G 6 (C := RX6) (T := TX6) (N := 8) rfl fr_X6 mw_cl_0_18 mw_insta_6 mw_ini_6 (by decide) (by decide) dX0_init_36 (fun q58 H G => ?_)
  have G : mG D A s H locs ((q58, .inr (6, [.null, .null, .null, .null, .null, .null, .int 0, .int 0])) :: (h0, .inr (0, [.int 0, .int 0, .ref q1])) :: (q1, .inl (K 6, 20, .inr (.inr (.inr (.inr (va_up (va_up (va_up (va_up (va_up (va_up (va_up (va_up (va_up (va_up (va_up (va_up (va_up (va_up (fun _ => none) 0 (some q2)) 1 (some q6)) 2 (some q10)) 3 (some q14)) 4 (some q18)) 5 (some q22)) 6 (some q26)) 7 (some q30)) 8 (some q34)) 9 (some q38)) 10 (some q42)) 11 (some q46)) 12 (some q50)) 13 (some q54))))))) :: ac57) := G.pm (pm_f _ _)
  refine lv_dup E.1 E.2.1 dX0_init_39 rfl ?_
  refine n_in E G hl (n_State l D K 282 (by decide : at_ 6 282 = true) q58) rfl mw_code_X6_init mw_ini_6 mw_mn_0_24 mw_inst_X6_init hd_X6_init ⟨by decide, by decide⟩ rfl (Nat.le_of_ble_eq_true rfl) ⟨by decide, by decide⟩ dX0_init_40 (fun g59 H locs hp60 G => ?_)
  have G : mG D A s H locs (Bk K 282 7 g59 ++ ((h0, .inr (0, [.int 0, .int 0, .ref q1])) :: (q1, .inl (K 6, 20, .inr (.inr (.inr (.inr (va_up (va_up (va_up (va_up (va_up (va_up (va_up (va_up (va_up (va_up (va_up (va_up (va_up (va_up (fun _ => none) 0 (some q2)) 1 (some q6)) 2 (some q10)) 3 (some q14)) 4 (some q18)) 5 (some q22)) 6 (some q26)) 7 (some q30)) 8 (some q34)) 9 (some q38)) 10 (some q42)) 11 (some q46)) 12 (some q50)) 13 (some q54))))))) :: ac57)) := G.pm List.perm_append_comm
  refine m_aast E G 8 6 0 (ci := 6) (r := (RX6, TX6, 8)) rfl rfl (show some (g59 282, cellF K g59 282) = _ by rw [hp60, cf_o (j := 282) (ci := 6) (rfl : ro 282 = 6) (by decide)]) rfl (by unfold vp_in; decide) dX0_init_43 (fun H locs G => ?_)
  have G : mG D A s H locs (Bk K 282 7 g59 ++ ((h0, .inr (0, [.int 0, .int 0, .ref q1])) :: (q1, .inl (K 6, 20, .inr (.inr (.inr (.inr (va_up (va_up (va_up (va_up (va_up (va_up (va_up (va_up (va_up (va_up (va_up (va_up (va_up (va_up (va_up (fun _ => none) 0 (some q2)) 1 (some q6)) 2 (some q10)) 3 (some q14)) 4 (some q18)) 5 (some q22)) 6 (some q26)) 7 (some q30)) 8 (some q34)) 9 (some q38)) 10 (some q42)) 11 (some q46)) 12 (some q50)) 13 (some q54)) 14 (some q58))))))) :: ac57)) := G
  have G : mG D A s H locs (((h0, .inr (0, [.int 0, .int 0, .ref q1])) :: (q1, .inl (K 6, 20, .inr (.inr (.inr (.inr (va_up (va_up (va_up (va_up (va_up (va_up (va_up (va_up (va_up (va_up (va_up (va_up (va_up (va_up (va_up (fun _ => none) 0 (some q2)) 1 (some q6)) 2 (some q10)) 3 (some q14)) 4 (some q18)) 5 (some q22)) 6 (some q26)) 7 (some q30)) 8 (some q34)) 9 (some q38)) 10 (some q42)) 11 (some q46)) 12 (some q50)) 13 (some q54)) 14 (some q58))))))) :: ac57) ++ (Bk K 282 7 g59)) := G.pm List.perm_append_comm
  obtain ⟨ac61, hac61⟩ : ∃ w : va_W, w = ac57 ++ (Bk K 282 7 g59) := ⟨_, rfl⟩
  have G : mG D A s H locs ((h0, .inr (0, [.int 0, .int 0, .ref q1])) :: (q1, .inl (K 6, 20, .inr (.inr (.inr (.inr (va_up (va_up (va_up (va_up (va_up (va_up (va_up (va_up (va_up (va_up (va_up (va_up (va_up (va_up (va_up (fun _ => none) 0 (some q2)) 1 (some q6)) 2 (some q10)) 3 (some q14)) 4 (some q18)) 5 (some q22)) 6 (some q26)) 7 (some q30)) 8 (some q34)) 9 (some q38)) 10 (some q42)) 11 (some q46)) 12 (some q50)) 13 (some q54)) 14 (some q58))))))) :: ac61) := by rw [hac61]; exact G
  refine lv_iinc (v := 15) (lv' := [(1, .int 15), (0, .ref h0)]) E.1 E.2.1 dX0_init_44 hl (k := 0) rfl (by decide) (by decide) rfl (fun ls hl => ?_)
  refine lv_goto (tgt := 25) E.1 E.2.1 dX0_init_47 (by decide) ?_
  refine lv_iload_n E.1 E.2.1 dX0_init_25 rfl (lv_at hl 0 rfl) ?_
  refine lv_bipush (v := 20) E.1 E.2.1 dX0_init_26 (by decide) ?_
  refine lv_icmp_ge (tgt := 50) E.1 E.2.1 dX0_init_28 (by decide) (fun h => absurd h (by decide)) (fun _ => ?_)
  refine lv_aload_n E.1 E.2.1 dX0_init_31 rfl (lv_at hl 1 rfl) ?_
  refine m_get E G 0 (ci := 0) rfl 2 (C := RX0) (T := TX0) (N := 3) rfl (by decide) mw_fl_0_20 (v := .ref q1) rfl dX0_init_32 ?_
  refine lv_iload_n E.1 E.2.1 dX0_init_35 rfl (lv_at hl 0 rfl) ?_
  refine m_new E G 6 (C := RX6) (T := TX6) (N := 8) rfl fr_X6 mw_cl_0_18 mw_insta_6 mw_ini_6 (by decide) (by decide) dX0_init_36 (fun q62 H G => ?_)
  have G : mG D A s H locs ((q62, .inr (6, [.null, .null, .null, .null, .null, .null, .int 0, .int 0])) :: (h0, .inr (0, [.int 0, .int 0, .ref q1])) :: (q1, .inl (K 6, 20, .inr (.inr (.inr (.inr (va_up (va_up (va_up (va_up (va_up (va_up (va_up (va_up (va_up (va_up (va_up (va_up (va_up (va_up (va_up (fun _ => none) 0 (some q2)) 1 (some q6)) 2 (some q10)) 3 (some q14)) 4 (some q18)) 5 (some q22)) 6 (some q26)) 7 (some q30)) 8 (some q34)) 9 (some q38)) 10 (some q42)) 11 (some q46)) 12 (some q50)) 13 (some q54)) 14 (some q58))))))) :: ac61) := G.pm (pm_f _ _)
  refine lv_dup E.1 E.2.1 dX0_init_39 rfl ?_
  refine n_in E G hl (n_State l D K 289 (by decide : at_ 6 289 = true) q62) rfl mw_code_X6_init mw_ini_6 mw_mn_0_24 mw_inst_X6_init hd_X6_init ⟨by decide, by decide⟩ rfl (Nat.le_of_ble_eq_true rfl) ⟨by decide, by decide⟩ dX0_init_40 (fun g63 H locs hp64 G => ?_)
  have G : mG D A s H locs (Bk K 289 7 g63 ++ ((h0, .inr (0, [.int 0, .int 0, .ref q1])) :: (q1, .inl (K 6, 20, .inr (.inr (.inr (.inr (va_up (va_up (va_up (va_up (va_up (va_up (va_up (va_up (va_up (va_up (va_up (va_up (va_up (va_up (va_up (fun _ => none) 0 (some q2)) 1 (some q6)) 2 (some q10)) 3 (some q14)) 4 (some q18)) 5 (some q22)) 6 (some q26)) 7 (some q30)) 8 (some q34)) 9 (some q38)) 10 (some q42)) 11 (some q46)) 12 (some q50)) 13 (some q54)) 14 (some q58))))))) :: ac61)) := G.pm List.perm_append_comm
  refine m_aast E G 8 6 0 (ci := 6) (r := (RX6, TX6, 8)) rfl rfl (show some (g63 289, cellF K g63 289) = _ by rw [hp64, cf_o (j := 289) (ci := 6) (rfl : ro 289 = 6) (by decide)]) rfl (by unfold vp_in; decide) dX0_init_43 (fun H locs G => ?_)
  have G : mG D A s H locs (Bk K 289 7 g63 ++ ((h0, .inr (0, [.int 0, .int 0, .ref q1])) :: (q1, .inl (K 6, 20, .inr (.inr (.inr (.inr (va_up (va_up (va_up (va_up (va_up (va_up (va_up (va_up (va_up (va_up (va_up (va_up (va_up (va_up (va_up (va_up (fun _ => none) 0 (some q2)) 1 (some q6)) 2 (some q10)) 3 (some q14)) 4 (some q18)) 5 (some q22)) 6 (some q26)) 7 (some q30)) 8 (some q34)) 9 (some q38)) 10 (some q42)) 11 (some q46)) 12 (some q50)) 13 (some q54)) 14 (some q58)) 15 (some q62))))))) :: ac61)) := G
  have G : mG D A s H locs (((h0, .inr (0, [.int 0, .int 0, .ref q1])) :: (q1, .inl (K 6, 20, .inr (.inr (.inr (.inr (va_up (va_up (va_up (va_up (va_up (va_up (va_up (va_up (va_up (va_up (va_up (va_up (va_up (va_up (va_up (va_up (fun _ => none) 0 (some q2)) 1 (some q6)) 2 (some q10)) 3 (some q14)) 4 (some q18)) 5 (some q22)) 6 (some q26)) 7 (some q30)) 8 (some q34)) 9 (some q38)) 10 (some q42)) 11 (some q46)) 12 (some q50)) 13 (some q54)) 14 (some q58)) 15 (some q62))))))) :: ac61) ++ (Bk K 289 7 g63)) := G.pm List.perm_append_comm
  obtain ⟨ac65, hac65⟩ : ∃ w : va_W, w = ac61 ++ (Bk K 289 7 g63) := ⟨_, rfl⟩
  have G : mG D A s H locs ((h0, .inr (0, [.int 0, .int 0, .ref q1])) :: (q1, .inl (K 6, 20, .inr (.inr (.inr (.inr (va_up (va_up (va_up (va_up (va_up (va_up (va_up (va_up (va_up (va_up (va_up (va_up (va_up (va_up (va_up (va_up (fun _ => none) 0 (some q2)) 1 (some q6)) 2 (some q10)) 3 (some q14)) 4 (some q18)) 5 (some q22)) 6 (some q26)) 7 (some q30)) 8 (some q34)) 9 (some q38)) 10 (some q42)) 11 (some q46)) 12 (some q50)) 13 (some q54)) 14 (some q58)) 15 (some q62))))))) :: ac65) := by rw [hac65]; exact G
  refine lv_iinc (v := 16) (lv' := [(1, .int 16), (0, .ref h0)]) E.1 E.2.1 dX0_init_44 hl (k := 0) rfl (by decide) (by decide) rfl (fun ls hl => ?_)
  refine lv_goto (tgt := 25) E.1 E.2.1 dX0_init_47 (by decide) ?_
  refine lv_iload_n E.1 E.2.1 dX0_init_25 rfl (lv_at hl 0 rfl) ?_
  refine lv_bipush (v := 20) E.1 E.2.1 dX0_init_26 (by decide) ?_
  refine lv_icmp_ge (tgt := 50) E.1 E.2.1 dX0_init_28 (by decide) (fun h => absurd h (by decide)) (fun _ => ?_)
  refine lv_aload_n E.1 E.2.1 dX0_init_31 rfl (lv_at hl 1 rfl) ?_
  refine m_get E G 0 (ci := 0) rfl 2 (C := RX0) (T := TX0) (N := 3) rfl (by decide) mw_fl_0_20 (v := .ref q1) rfl dX0_init_32 ?_
  refine lv_iload_n E.1 E.2.1 dX0_init_35 rfl (lv_at hl 0 rfl) ?_
  refine m_new E G 6 (C := RX6) (T := TX6) (N := 8) rfl fr_X6 mw_cl_0_18 mw_insta_6 mw_ini_6 (by decide) (by decide) dX0_init_36 (fun q66 H G => ?_)
  have G : mG D A s H locs ((q66, .inr (6, [.null, .null, .null, .null, .null, .null, .int 0, .int 0])) :: (h0, .inr (0, [.int 0, .int 0, .ref q1])) :: (q1, .inl (K 6, 20, .inr (.inr (.inr (.inr (va_up (va_up (va_up (va_up (va_up (va_up (va_up (va_up (va_up (va_up (va_up (va_up (va_up (va_up (va_up (va_up (fun _ => none) 0 (some q2)) 1 (some q6)) 2 (some q10)) 3 (some q14)) 4 (some q18)) 5 (some q22)) 6 (some q26)) 7 (some q30)) 8 (some q34)) 9 (some q38)) 10 (some q42)) 11 (some q46)) 12 (some q50)) 13 (some q54)) 14 (some q58)) 15 (some q62))))))) :: ac65) := G.pm (pm_f _ _)
  refine lv_dup E.1 E.2.1 dX0_init_39 rfl ?_
  refine n_in E G hl (n_State l D K 296 (by decide : at_ 6 296 = true) q66) rfl mw_code_X6_init mw_ini_6 mw_mn_0_24 mw_inst_X6_init hd_X6_init ⟨by decide, by decide⟩ rfl (Nat.le_of_ble_eq_true rfl) ⟨by decide, by decide⟩ dX0_init_40 (fun g67 H locs hp68 G => ?_)
  have G : mG D A s H locs (Bk K 296 7 g67 ++ ((h0, .inr (0, [.int 0, .int 0, .ref q1])) :: (q1, .inl (K 6, 20, .inr (.inr (.inr (.inr (va_up (va_up (va_up (va_up (va_up (va_up (va_up (va_up (va_up (va_up (va_up (va_up (va_up (va_up (va_up (va_up (fun _ => none) 0 (some q2)) 1 (some q6)) 2 (some q10)) 3 (some q14)) 4 (some q18)) 5 (some q22)) 6 (some q26)) 7 (some q30)) 8 (some q34)) 9 (some q38)) 10 (some q42)) 11 (some q46)) 12 (some q50)) 13 (some q54)) 14 (some q58)) 15 (some q62))))))) :: ac65)) := G.pm List.perm_append_comm
  refine m_aast E G 8 6 0 (ci := 6) (r := (RX6, TX6, 8)) rfl rfl (show some (g67 296, cellF K g67 296) = _ by rw [hp68, cf_o (j := 296) (ci := 6) (rfl : ro 296 = 6) (by decide)]) rfl (by unfold vp_in; decide) dX0_init_43 (fun H locs G => ?_)
  have G : mG D A s H locs (Bk K 296 7 g67 ++ ((h0, .inr (0, [.int 0, .int 0, .ref q1])) :: (q1, .inl (K 6, 20, .inr (.inr (.inr (.inr (va_up (va_up (va_up (va_up (va_up (va_up (va_up (va_up (va_up (va_up (va_up (va_up (va_up (va_up (va_up (va_up (va_up (fun _ => none) 0 (some q2)) 1 (some q6)) 2 (some q10)) 3 (some q14)) 4 (some q18)) 5 (some q22)) 6 (some q26)) 7 (some q30)) 8 (some q34)) 9 (some q38)) 10 (some q42)) 11 (some q46)) 12 (some q50)) 13 (some q54)) 14 (some q58)) 15 (some q62)) 16 (some q66))))))) :: ac65)) := G
  have G : mG D A s H locs (((h0, .inr (0, [.int 0, .int 0, .ref q1])) :: (q1, .inl (K 6, 20, .inr (.inr (.inr (.inr (va_up (va_up (va_up (va_up (va_up (va_up (va_up (va_up (va_up (va_up (va_up (va_up (va_up (va_up (va_up (va_up (va_up (fun _ => none) 0 (some q2)) 1 (some q6)) 2 (some q10)) 3 (some q14)) 4 (some q18)) 5 (some q22)) 6 (some q26)) 7 (some q30)) 8 (some q34)) 9 (some q38)) 10 (some q42)) 11 (some q46)) 12 (some q50)) 13 (some q54)) 14 (some q58)) 15 (some q62)) 16 (some q66))))))) :: ac65) ++ (Bk K 296 7 g67)) := G.pm List.perm_append_comm
  obtain ⟨ac69, hac69⟩ : ∃ w : va_W, w = ac65 ++ (Bk K 296 7 g67) := ⟨_, rfl⟩
  have G : mG D A s H locs ((h0, .inr (0, [.int 0, .int 0, .ref q1])) :: (q1, .inl (K 6, 20, .inr (.inr (.inr (.inr (va_up (va_up (va_up (va_up (va_up (va_up (va_up (va_up (va_up (va_up (va_up (va_up (va_up (va_up (va_up (va_up (va_up (fun _ => none) 0 (some q2)) 1 (some q6)) 2 (some q10)) 3 (some q14)) 4 (some q18)) 5 (some q22)) 6 (some q26)) 7 (some q30)) 8 (some q34)) 9 (some q38)) 10 (some q42)) 11 (some q46)) 12 (some q50)) 13 (some q54)) 14 (some q58)) 15 (some q62)) 16 (some q66))))))) :: ac69) := by rw [hac69]; exact G
  refine lv_iinc (v := 17) (lv' := [(1, .int 17), (0, .ref h0)]) E.1 E.2.1 dX0_init_44 hl (k := 0) rfl (by decide) (by decide) rfl (fun ls hl => ?_)
  refine lv_goto (tgt := 25) E.1 E.2.1 dX0_init_47 (by decide) ?_
  refine lv_iload_n E.1 E.2.1 dX0_init_25 rfl (lv_at hl 0 rfl) ?_
  refine lv_bipush (v := 20) E.1 E.2.1 dX0_init_26 (by decide) ?_
  refine lv_icmp_ge (tgt := 50) E.1 E.2.1 dX0_init_28 (by decide) (fun h => absurd h (by decide)) (fun _ => ?_)
  refine lv_aload_n E.1 E.2.1 dX0_init_31 rfl (lv_at hl 1 rfl) ?_
  refine m_get E G 0 (ci := 0) rfl 2 (C := RX0) (T := TX0) (N := 3) rfl (by decide) mw_fl_0_20 (v := .ref q1) rfl dX0_init_32 ?_
  refine lv_iload_n E.1 E.2.1 dX0_init_35 rfl (lv_at hl 0 rfl) ?_
  refine m_new E G 6 (C := RX6) (T := TX6) (N := 8) rfl fr_X6 mw_cl_0_18 mw_insta_6 mw_ini_6 (by decide) (by decide) dX0_init_36 (fun q70 H G => ?_)
  have G : mG D A s H locs ((q70, .inr (6, [.null, .null, .null, .null, .null, .null, .int 0, .int 0])) :: (h0, .inr (0, [.int 0, .int 0, .ref q1])) :: (q1, .inl (K 6, 20, .inr (.inr (.inr (.inr (va_up (va_up (va_up (va_up (va_up (va_up (va_up (va_up (va_up (va_up (va_up (va_up (va_up (va_up (va_up (va_up (va_up (fun _ => none) 0 (some q2)) 1 (some q6)) 2 (some q10)) 3 (some q14)) 4 (some q18)) 5 (some q22)) 6 (some q26)) 7 (some q30)) 8 (some q34)) 9 (some q38)) 10 (some q42)) 11 (some q46)) 12 (some q50)) 13 (some q54)) 14 (some q58)) 15 (some q62)) 16 (some q66))))))) :: ac69) := G.pm (pm_f _ _)
  refine lv_dup E.1 E.2.1 dX0_init_39 rfl ?_
  refine n_in E G hl (n_State l D K 303 (by decide : at_ 6 303 = true) q70) rfl mw_code_X6_init mw_ini_6 mw_mn_0_24 mw_inst_X6_init hd_X6_init ⟨by decide, by decide⟩ rfl (Nat.le_of_ble_eq_true rfl) ⟨by decide, by decide⟩ dX0_init_40 (fun g71 H locs hp72 G => ?_)
  have G : mG D A s H locs (Bk K 303 7 g71 ++ ((h0, .inr (0, [.int 0, .int 0, .ref q1])) :: (q1, .inl (K 6, 20, .inr (.inr (.inr (.inr (va_up (va_up (va_up (va_up (va_up (va_up (va_up (va_up (va_up (va_up (va_up (va_up (va_up (va_up (va_up (va_up (va_up (fun _ => none) 0 (some q2)) 1 (some q6)) 2 (some q10)) 3 (some q14)) 4 (some q18)) 5 (some q22)) 6 (some q26)) 7 (some q30)) 8 (some q34)) 9 (some q38)) 10 (some q42)) 11 (some q46)) 12 (some q50)) 13 (some q54)) 14 (some q58)) 15 (some q62)) 16 (some q66))))))) :: ac69)) := G.pm List.perm_append_comm
  refine m_aast E G 8 6 0 (ci := 6) (r := (RX6, TX6, 8)) rfl rfl (show some (g71 303, cellF K g71 303) = _ by rw [hp72, cf_o (j := 303) (ci := 6) (rfl : ro 303 = 6) (by decide)]) rfl (by unfold vp_in; decide) dX0_init_43 (fun H locs G => ?_)
  have G : mG D A s H locs (Bk K 303 7 g71 ++ ((h0, .inr (0, [.int 0, .int 0, .ref q1])) :: (q1, .inl (K 6, 20, .inr (.inr (.inr (.inr (va_up (va_up (va_up (va_up (va_up (va_up (va_up (va_up (va_up (va_up (va_up (va_up (va_up (va_up (va_up (va_up (va_up (va_up (fun _ => none) 0 (some q2)) 1 (some q6)) 2 (some q10)) 3 (some q14)) 4 (some q18)) 5 (some q22)) 6 (some q26)) 7 (some q30)) 8 (some q34)) 9 (some q38)) 10 (some q42)) 11 (some q46)) 12 (some q50)) 13 (some q54)) 14 (some q58)) 15 (some q62)) 16 (some q66)) 17 (some q70))))))) :: ac69)) := G
  have G : mG D A s H locs (((h0, .inr (0, [.int 0, .int 0, .ref q1])) :: (q1, .inl (K 6, 20, .inr (.inr (.inr (.inr (va_up (va_up (va_up (va_up (va_up (va_up (va_up (va_up (va_up (va_up (va_up (va_up (va_up (va_up (va_up (va_up (va_up (va_up (fun _ => none) 0 (some q2)) 1 (some q6)) 2 (some q10)) 3 (some q14)) 4 (some q18)) 5 (some q22)) 6 (some q26)) 7 (some q30)) 8 (some q34)) 9 (some q38)) 10 (some q42)) 11 (some q46)) 12 (some q50)) 13 (some q54)) 14 (some q58)) 15 (some q62)) 16 (some q66)) 17 (some q70))))))) :: ac69) ++ (Bk K 303 7 g71)) := G.pm List.perm_append_comm
  obtain ⟨ac73, hac73⟩ : ∃ w : va_W, w = ac69 ++ (Bk K 303 7 g71) := ⟨_, rfl⟩
  have G : mG D A s H locs ((h0, .inr (0, [.int 0, .int 0, .ref q1])) :: (q1, .inl (K 6, 20, .inr (.inr (.inr (.inr (va_up (va_up (va_up (va_up (va_up (va_up (va_up (va_up (va_up (va_up (va_up (va_up (va_up (va_up (va_up (va_up (va_up (va_up (fun _ => none) 0 (some q2)) 1 (some q6)) 2 (some q10)) 3 (some q14)) 4 (some q18)) 5 (some q22)) 6 (some q26)) 7 (some q30)) 8 (some q34)) 9 (some q38)) 10 (some q42)) 11 (some q46)) 12 (some q50)) 13 (some q54)) 14 (some q58)) 15 (some q62)) 16 (some q66)) 17 (some q70))))))) :: ac73) := by rw [hac73]; exact G
  refine lv_iinc (v := 18) (lv' := [(1, .int 18), (0, .ref h0)]) E.1 E.2.1 dX0_init_44 hl (k := 0) rfl (by decide) (by decide) rfl (fun ls hl => ?_)
  refine lv_goto (tgt := 25) E.1 E.2.1 dX0_init_47 (by decide) ?_
  refine lv_iload_n E.1 E.2.1 dX0_init_25 rfl (lv_at hl 0 rfl) ?_
  refine lv_bipush (v := 20) E.1 E.2.1 dX0_init_26 (by decide) ?_
  refine lv_icmp_ge (tgt := 50) E.1 E.2.1 dX0_init_28 (by decide) (fun h => absurd h (by decide)) (fun _ => ?_)
  refine lv_aload_n E.1 E.2.1 dX0_init_31 rfl (lv_at hl 1 rfl) ?_
  refine m_get E G 0 (ci := 0) rfl 2 (C := RX0) (T := TX0) (N := 3) rfl (by decide) mw_fl_0_20 (v := .ref q1) rfl dX0_init_32 ?_
  refine lv_iload_n E.1 E.2.1 dX0_init_35 rfl (lv_at hl 0 rfl) ?_
  refine m_new E G 6 (C := RX6) (T := TX6) (N := 8) rfl fr_X6 mw_cl_0_18 mw_insta_6 mw_ini_6 (by decide) (by decide) dX0_init_36 (fun q74 H G => ?_)
  have G : mG D A s H locs ((q74, .inr (6, [.null, .null, .null, .null, .null, .null, .int 0, .int 0])) :: (h0, .inr (0, [.int 0, .int 0, .ref q1])) :: (q1, .inl (K 6, 20, .inr (.inr (.inr (.inr (va_up (va_up (va_up (va_up (va_up (va_up (va_up (va_up (va_up (va_up (va_up (va_up (va_up (va_up (va_up (va_up (va_up (va_up (fun _ => none) 0 (some q2)) 1 (some q6)) 2 (some q10)) 3 (some q14)) 4 (some q18)) 5 (some q22)) 6 (some q26)) 7 (some q30)) 8 (some q34)) 9 (some q38)) 10 (some q42)) 11 (some q46)) 12 (some q50)) 13 (some q54)) 14 (some q58)) 15 (some q62)) 16 (some q66)) 17 (some q70))))))) :: ac73) := G.pm (pm_f _ _)
  refine lv_dup E.1 E.2.1 dX0_init_39 rfl ?_
  refine n_in E G hl (n_State l D K 310 (by decide : at_ 6 310 = true) q74) rfl mw_code_X6_init mw_ini_6 mw_mn_0_24 mw_inst_X6_init hd_X6_init ⟨by decide, by decide⟩ rfl (Nat.le_of_ble_eq_true rfl) ⟨by decide, by decide⟩ dX0_init_40 (fun g75 H locs hp76 G => ?_)
  have G : mG D A s H locs (Bk K 310 7 g75 ++ ((h0, .inr (0, [.int 0, .int 0, .ref q1])) :: (q1, .inl (K 6, 20, .inr (.inr (.inr (.inr (va_up (va_up (va_up (va_up (va_up (va_up (va_up (va_up (va_up (va_up (va_up (va_up (va_up (va_up (va_up (va_up (va_up (va_up (fun _ => none) 0 (some q2)) 1 (some q6)) 2 (some q10)) 3 (some q14)) 4 (some q18)) 5 (some q22)) 6 (some q26)) 7 (some q30)) 8 (some q34)) 9 (some q38)) 10 (some q42)) 11 (some q46)) 12 (some q50)) 13 (some q54)) 14 (some q58)) 15 (some q62)) 16 (some q66)) 17 (some q70))))))) :: ac73)) := G.pm List.perm_append_comm
  refine m_aast E G 8 6 0 (ci := 6) (r := (RX6, TX6, 8)) rfl rfl (show some (g75 310, cellF K g75 310) = _ by rw [hp76, cf_o (j := 310) (ci := 6) (rfl : ro 310 = 6) (by decide)]) rfl (by unfold vp_in; decide) dX0_init_43 (fun H locs G => ?_)
  have G : mG D A s H locs (Bk K 310 7 g75 ++ ((h0, .inr (0, [.int 0, .int 0, .ref q1])) :: (q1, .inl (K 6, 20, .inr (.inr (.inr (.inr (va_up (va_up (va_up (va_up (va_up (va_up (va_up (va_up (va_up (va_up (va_up (va_up (va_up (va_up (va_up (va_up (va_up (va_up (va_up (fun _ => none) 0 (some q2)) 1 (some q6)) 2 (some q10)) 3 (some q14)) 4 (some q18)) 5 (some q22)) 6 (some q26)) 7 (some q30)) 8 (some q34)) 9 (some q38)) 10 (some q42)) 11 (some q46)) 12 (some q50)) 13 (some q54)) 14 (some q58)) 15 (some q62)) 16 (some q66)) 17 (some q70)) 18 (some q74))))))) :: ac73)) := G
  have G : mG D A s H locs (((h0, .inr (0, [.int 0, .int 0, .ref q1])) :: (q1, .inl (K 6, 20, .inr (.inr (.inr (.inr (va_up (va_up (va_up (va_up (va_up (va_up (va_up (va_up (va_up (va_up (va_up (va_up (va_up (va_up (va_up (va_up (va_up (va_up (va_up (fun _ => none) 0 (some q2)) 1 (some q6)) 2 (some q10)) 3 (some q14)) 4 (some q18)) 5 (some q22)) 6 (some q26)) 7 (some q30)) 8 (some q34)) 9 (some q38)) 10 (some q42)) 11 (some q46)) 12 (some q50)) 13 (some q54)) 14 (some q58)) 15 (some q62)) 16 (some q66)) 17 (some q70)) 18 (some q74))))))) :: ac73) ++ (Bk K 310 7 g75)) := G.pm List.perm_append_comm
  obtain ⟨ac77, hac77⟩ : ∃ w : va_W, w = ac73 ++ (Bk K 310 7 g75) := ⟨_, rfl⟩
  have G : mG D A s H locs ((h0, .inr (0, [.int 0, .int 0, .ref q1])) :: (q1, .inl (K 6, 20, .inr (.inr (.inr (.inr (va_up (va_up (va_up (va_up (va_up (va_up (va_up (va_up (va_up (va_up (va_up (va_up (va_up (va_up (va_up (va_up (va_up (va_up (va_up (fun _ => none) 0 (some q2)) 1 (some q6)) 2 (some q10)) 3 (some q14)) 4 (some q18)) 5 (some q22)) 6 (some q26)) 7 (some q30)) 8 (some q34)) 9 (some q38)) 10 (some q42)) 11 (some q46)) 12 (some q50)) 13 (some q54)) 14 (some q58)) 15 (some q62)) 16 (some q66)) 17 (some q70)) 18 (some q74))))))) :: ac77) := by rw [hac77]; exact G
  refine lv_iinc (v := 19) (lv' := [(1, .int 19), (0, .ref h0)]) E.1 E.2.1 dX0_init_44 hl (k := 0) rfl (by decide) (by decide) rfl (fun ls hl => ?_)
  refine lv_goto (tgt := 25) E.1 E.2.1 dX0_init_47 (by decide) ?_
  refine lv_iload_n E.1 E.2.1 dX0_init_25 rfl (lv_at hl 0 rfl) ?_
  refine lv_bipush (v := 20) E.1 E.2.1 dX0_init_26 (by decide) ?_
  refine lv_icmp_ge (tgt := 50) E.1 E.2.1 dX0_init_28 (by decide) (fun h => absurd h (by decide)) (fun _ => ?_)
  refine lv_aload_n E.1 E.2.1 dX0_init_31 rfl (lv_at hl 1 rfl) ?_
  refine m_get E G 0 (ci := 0) rfl 2 (C := RX0) (T := TX0) (N := 3) rfl (by decide) mw_fl_0_20 (v := .ref q1) rfl dX0_init_32 ?_
  refine lv_iload_n E.1 E.2.1 dX0_init_35 rfl (lv_at hl 0 rfl) ?_
  refine m_new E G 6 (C := RX6) (T := TX6) (N := 8) rfl fr_X6 mw_cl_0_18 mw_insta_6 mw_ini_6 (by decide) (by decide) dX0_init_36 (fun q78 H G => ?_)
  have G : mG D A s H locs ((q78, .inr (6, [.null, .null, .null, .null, .null, .null, .int 0, .int 0])) :: (h0, .inr (0, [.int 0, .int 0, .ref q1])) :: (q1, .inl (K 6, 20, .inr (.inr (.inr (.inr (va_up (va_up (va_up (va_up (va_up (va_up (va_up (va_up (va_up (va_up (va_up (va_up (va_up (va_up (va_up (va_up (va_up (va_up (va_up (fun _ => none) 0 (some q2)) 1 (some q6)) 2 (some q10)) 3 (some q14)) 4 (some q18)) 5 (some q22)) 6 (some q26)) 7 (some q30)) 8 (some q34)) 9 (some q38)) 10 (some q42)) 11 (some q46)) 12 (some q50)) 13 (some q54)) 14 (some q58)) 15 (some q62)) 16 (some q66)) 17 (some q70)) 18 (some q74))))))) :: ac77) := G.pm (pm_f _ _)
  refine lv_dup E.1 E.2.1 dX0_init_39 rfl ?_
  refine n_in E G hl (n_State l D K 317 (by decide : at_ 6 317 = true) q78) rfl mw_code_X6_init mw_ini_6 mw_mn_0_24 mw_inst_X6_init hd_X6_init ⟨by decide, by decide⟩ rfl (Nat.le_of_ble_eq_true rfl) ⟨by decide, by decide⟩ dX0_init_40 (fun g79 H locs hp80 G => ?_)
  have G : mG D A s H locs (Bk K 317 7 g79 ++ ((h0, .inr (0, [.int 0, .int 0, .ref q1])) :: (q1, .inl (K 6, 20, .inr (.inr (.inr (.inr (va_up (va_up (va_up (va_up (va_up (va_up (va_up (va_up (va_up (va_up (va_up (va_up (va_up (va_up (va_up (va_up (va_up (va_up (va_up (fun _ => none) 0 (some q2)) 1 (some q6)) 2 (some q10)) 3 (some q14)) 4 (some q18)) 5 (some q22)) 6 (some q26)) 7 (some q30)) 8 (some q34)) 9 (some q38)) 10 (some q42)) 11 (some q46)) 12 (some q50)) 13 (some q54)) 14 (some q58)) 15 (some q62)) 16 (some q66)) 17 (some q70)) 18 (some q74))))))) :: ac77)) := G.pm List.perm_append_comm
  refine m_aast E G 8 6 0 (ci := 6) (r := (RX6, TX6, 8)) rfl rfl (show some (g79 317, cellF K g79 317) = _ by rw [hp80, cf_o (j := 317) (ci := 6) (rfl : ro 317 = 6) (by decide)]) rfl (by unfold vp_in; decide) dX0_init_43 (fun H locs G => ?_)
  have G : mG D A s H locs (Bk K 317 7 g79 ++ ((h0, .inr (0, [.int 0, .int 0, .ref q1])) :: (q1, .inl (K 6, 20, .inr (.inr (.inr (.inr (va_up (va_up (va_up (va_up (va_up (va_up (va_up (va_up (va_up (va_up (va_up (va_up (va_up (va_up (va_up (va_up (va_up (va_up (va_up (va_up (fun _ => none) 0 (some q2)) 1 (some q6)) 2 (some q10)) 3 (some q14)) 4 (some q18)) 5 (some q22)) 6 (some q26)) 7 (some q30)) 8 (some q34)) 9 (some q38)) 10 (some q42)) 11 (some q46)) 12 (some q50)) 13 (some q54)) 14 (some q58)) 15 (some q62)) 16 (some q66)) 17 (some q70)) 18 (some q74)) 19 (some q78))))))) :: ac77)) := G
  have G : mG D A s H locs (((h0, .inr (0, [.int 0, .int 0, .ref q1])) :: (q1, .inl (K 6, 20, .inr (.inr (.inr (.inr (va_up (va_up (va_up (va_up (va_up (va_up (va_up (va_up (va_up (va_up (va_up (va_up (va_up (va_up (va_up (va_up (va_up (va_up (va_up (va_up (fun _ => none) 0 (some q2)) 1 (some q6)) 2 (some q10)) 3 (some q14)) 4 (some q18)) 5 (some q22)) 6 (some q26)) 7 (some q30)) 8 (some q34)) 9 (some q38)) 10 (some q42)) 11 (some q46)) 12 (some q50)) 13 (some q54)) 14 (some q58)) 15 (some q62)) 16 (some q66)) 17 (some q70)) 18 (some q74)) 19 (some q78))))))) :: ac77) ++ (Bk K 317 7 g79)) := G.pm List.perm_append_comm
  obtain ⟨ac81, hac81⟩ : ∃ w : va_W, w = ac77 ++ (Bk K 317 7 g79) := ⟨_, rfl⟩
  have G : mG D A s H locs ((h0, .inr (0, [.int 0, .int 0, .ref q1])) :: (q1, .inl (K 6, 20, .inr (.inr (.inr (.inr (va_up (va_up (va_up (va_up (va_up (va_up (va_up (va_up (va_up (va_up (va_up (va_up (va_up (va_up (va_up (va_up (va_up (va_up (va_up (va_up (fun _ => none) 0 (some q2)) 1 (some q6)) 2 (some q10)) 3 (some q14)) 4 (some q18)) 5 (some q22)) 6 (some q26)) 7 (some q30)) 8 (some q34)) 9 (some q38)) 10 (some q42)) 11 (some q46)) 12 (some q50)) 13 (some q54)) 14 (some q58)) 15 (some q62)) 16 (some q66)) 17 (some q70)) 18 (some q74)) 19 (some q78))))))) :: ac81) := by rw [hac81]; exact G
  refine lv_iinc (v := 20) (lv' := [(1, .int 20), (0, .ref h0)]) E.1 E.2.1 dX0_init_44 hl (k := 0) rfl (by decide) (by decide) rfl (fun ls hl => ?_)
  refine lv_goto (tgt := 25) E.1 E.2.1 dX0_init_47 (by decide) ?_
  refine lv_iload_n E.1 E.2.1 dX0_init_25 rfl (lv_at hl 0 rfl) ?_
  refine lv_bipush (v := 20) E.1 E.2.1 dX0_init_26 (by decide) ?_
  refine lv_icmp_ge (tgt := 50) E.1 E.2.1 dX0_init_28 (by decide) (fun _ => ?_) (fun h => absurd (by decide) h)
  obtain ⟨X0, hX0⟩ : ∃ x : va_W, x = ([(h0, .inr (0, [.int 0, .int 0, .ref q1]))] : va_W) := ⟨_, rfl⟩
  obtain ⟨g, hq82, hq83, hq84, hq85, hq86, hq87, hq88, hq89, hq90, hq91, hq92, hq93, hq94, hq95, hq96, hq97, hq98, hq99, hq100, hq101, hq102, hq103⟩ : ∃ g : Nat → Nat, g 182 = h0 ∧ g 183 = q1 ∧ (∀ i, i < 7 → g (184 + i) = g3 (184 + i)) ∧ (∀ i, i < 7 → g (191 + i) = g7 (191 + i)) ∧ (∀ i, i < 7 → g (198 + i) = g11 (198 + i)) ∧ (∀ i, i < 7 → g (205 + i) = g15 (205 + i)) ∧ (∀ i, i < 7 → g (212 + i) = g19 (212 + i)) ∧ (∀ i, i < 7 → g (219 + i) = g23 (219 + i)) ∧ (∀ i, i < 7 → g (226 + i) = g27 (226 + i)) ∧ (∀ i, i < 7 → g (233 + i) = g31 (233 + i)) ∧ (∀ i, i < 7 → g (240 + i) = g35 (240 + i)) ∧ (∀ i, i < 7 → g (247 + i) = g39 (247 + i)) ∧ (∀ i, i < 7 → g (254 + i) = g43 (254 + i)) ∧ (∀ i, i < 7 → g (261 + i) = g47 (261 + i)) ∧ (∀ i, i < 7 → g (268 + i) = g51 (268 + i)) ∧ (∀ i, i < 7 → g (275 + i) = g55 (275 + i)) ∧ (∀ i, i < 7 → g (282 + i) = g59 (282 + i)) ∧ (∀ i, i < 7 → g (289 + i) = g63 (289 + i)) ∧ (∀ i, i < 7 → g (296 + i) = g67 (296 + i)) ∧ (∀ i, i < 7 → g (303 + i) = g71 (303 + i)) ∧ (∀ i, i < 7 → g (310 + i) = g75 (310 + i)) ∧ (∀ i, i < 7 → g (317 + i) = g79 (317 + i)) := by
    refine ⟨fun j => if j < 183 then h0 else if j < 184 then q1 else if j < 191 then g3 j else if j < 198 then g7 j else if j < 205 then g11 j else if j < 212 then g15 j else if j < 219 then g19 j else if j < 226 then g23 j else if j < 233 then g27 j else if j < 240 then g31 j else if j < 247 then g35 j else if j < 254 then g39 j else if j < 261 then g43 j else if j < 268 then g47 j else if j < 275 then g51 j else if j < 282 then g55 j else if j < 289 then g59 j else if j < 296 then g63 j else if j < 303 then g67 j else if j < 310 then g71 j else if j < 317 then g75 j else g79 j, ?_, ?_, ?_, ?_, ?_, ?_, ?_, ?_, ?_, ?_, ?_, ?_, ?_, ?_, ?_, ?_, ?_, ?_, ?_, ?_, ?_, ?_⟩
    · exact (if_pos (by omega))
    · exact ((if_neg (by omega)).trans (if_pos (by omega)))
    · exact fun i hi => ((if_neg (by omega)).trans ((if_neg (by omega)).trans (if_pos (by omega))))
    · exact fun i hi => ((if_neg (by omega)).trans ((if_neg (by omega)).trans ((if_neg (by omega)).trans (if_pos (by omega)))))
    · exact fun i hi => ((if_neg (by omega)).trans ((if_neg (by omega)).trans ((if_neg (by omega)).trans ((if_neg (by omega)).trans (if_pos (by omega))))))
    · exact fun i hi => ((if_neg (by omega)).trans ((if_neg (by omega)).trans ((if_neg (by omega)).trans ((if_neg (by omega)).trans ((if_neg (by omega)).trans (if_pos (by omega)))))))
    · exact fun i hi => ((if_neg (by omega)).trans ((if_neg (by omega)).trans ((if_neg (by omega)).trans ((if_neg (by omega)).trans ((if_neg (by omega)).trans ((if_neg (by omega)).trans (if_pos (by omega))))))))
    · exact fun i hi => ((if_neg (by omega)).trans ((if_neg (by omega)).trans ((if_neg (by omega)).trans ((if_neg (by omega)).trans ((if_neg (by omega)).trans ((if_neg (by omega)).trans ((if_neg (by omega)).trans (if_pos (by omega)))))))))
    · exact fun i hi => ((if_neg (by omega)).trans ((if_neg (by omega)).trans ((if_neg (by omega)).trans ((if_neg (by omega)).trans ((if_neg (by omega)).trans ((if_neg (by omega)).trans ((if_neg (by omega)).trans ((if_neg (by omega)).trans (if_pos (by omega))))))))))
    · exact fun i hi => ((if_neg (by omega)).trans ((if_neg (by omega)).trans ((if_neg (by omega)).trans ((if_neg (by omega)).trans ((if_neg (by omega)).trans ((if_neg (by omega)).trans ((if_neg (by omega)).trans ((if_neg (by omega)).trans ((if_neg (by omega)).trans (if_pos (by omega)))))))))))
    · exact fun i hi => ((if_neg (by omega)).trans ((if_neg (by omega)).trans ((if_neg (by omega)).trans ((if_neg (by omega)).trans ((if_neg (by omega)).trans ((if_neg (by omega)).trans ((if_neg (by omega)).trans ((if_neg (by omega)).trans ((if_neg (by omega)).trans ((if_neg (by omega)).trans (if_pos (by omega))))))))))))
    · exact fun i hi => ((if_neg (by omega)).trans ((if_neg (by omega)).trans ((if_neg (by omega)).trans ((if_neg (by omega)).trans ((if_neg (by omega)).trans ((if_neg (by omega)).trans ((if_neg (by omega)).trans ((if_neg (by omega)).trans ((if_neg (by omega)).trans ((if_neg (by omega)).trans ((if_neg (by omega)).trans (if_pos (by omega)))))))))))))
    · exact fun i hi => ((if_neg (by omega)).trans ((if_neg (by omega)).trans ((if_neg (by omega)).trans ((if_neg (by omega)).trans ((if_neg (by omega)).trans ((if_neg (by omega)).trans ((if_neg (by omega)).trans ((if_neg (by omega)).trans ((if_neg (by omega)).trans ((if_neg (by omega)).trans ((if_neg (by omega)).trans ((if_neg (by omega)).trans (if_pos (by omega))))))))))))))
    · exact fun i hi => ((if_neg (by omega)).trans ((if_neg (by omega)).trans ((if_neg (by omega)).trans ((if_neg (by omega)).trans ((if_neg (by omega)).trans ((if_neg (by omega)).trans ((if_neg (by omega)).trans ((if_neg (by omega)).trans ((if_neg (by omega)).trans ((if_neg (by omega)).trans ((if_neg (by omega)).trans ((if_neg (by omega)).trans ((if_neg (by omega)).trans (if_pos (by omega)))))))))))))))
    · exact fun i hi => ((if_neg (by omega)).trans ((if_neg (by omega)).trans ((if_neg (by omega)).trans ((if_neg (by omega)).trans ((if_neg (by omega)).trans ((if_neg (by omega)).trans ((if_neg (by omega)).trans ((if_neg (by omega)).trans ((if_neg (by omega)).trans ((if_neg (by omega)).trans ((if_neg (by omega)).trans ((if_neg (by omega)).trans ((if_neg (by omega)).trans ((if_neg (by omega)).trans (if_pos (by omega))))))))))))))))
    · exact fun i hi => ((if_neg (by omega)).trans ((if_neg (by omega)).trans ((if_neg (by omega)).trans ((if_neg (by omega)).trans ((if_neg (by omega)).trans ((if_neg (by omega)).trans ((if_neg (by omega)).trans ((if_neg (by omega)).trans ((if_neg (by omega)).trans ((if_neg (by omega)).trans ((if_neg (by omega)).trans ((if_neg (by omega)).trans ((if_neg (by omega)).trans ((if_neg (by omega)).trans ((if_neg (by omega)).trans (if_pos (by omega)))))))))))))))))
    · exact fun i hi => ((if_neg (by omega)).trans ((if_neg (by omega)).trans ((if_neg (by omega)).trans ((if_neg (by omega)).trans ((if_neg (by omega)).trans ((if_neg (by omega)).trans ((if_neg (by omega)).trans ((if_neg (by omega)).trans ((if_neg (by omega)).trans ((if_neg (by omega)).trans ((if_neg (by omega)).trans ((if_neg (by omega)).trans ((if_neg (by omega)).trans ((if_neg (by omega)).trans ((if_neg (by omega)).trans ((if_neg (by omega)).trans (if_pos (by omega))))))))))))))))))
    · exact fun i hi => ((if_neg (by omega)).trans ((if_neg (by omega)).trans ((if_neg (by omega)).trans ((if_neg (by omega)).trans ((if_neg (by omega)).trans ((if_neg (by omega)).trans ((if_neg (by omega)).trans ((if_neg (by omega)).trans ((if_neg (by omega)).trans ((if_neg (by omega)).trans ((if_neg (by omega)).trans ((if_neg (by omega)).trans ((if_neg (by omega)).trans ((if_neg (by omega)).trans ((if_neg (by omega)).trans ((if_neg (by omega)).trans ((if_neg (by omega)).trans (if_pos (by omega)))))))))))))))))))
    · exact fun i hi => ((if_neg (by omega)).trans ((if_neg (by omega)).trans ((if_neg (by omega)).trans ((if_neg (by omega)).trans ((if_neg (by omega)).trans ((if_neg (by omega)).trans ((if_neg (by omega)).trans ((if_neg (by omega)).trans ((if_neg (by omega)).trans ((if_neg (by omega)).trans ((if_neg (by omega)).trans ((if_neg (by omega)).trans ((if_neg (by omega)).trans ((if_neg (by omega)).trans ((if_neg (by omega)).trans ((if_neg (by omega)).trans ((if_neg (by omega)).trans ((if_neg (by omega)).trans (if_pos (by omega))))))))))))))))))))
    · exact fun i hi => ((if_neg (by omega)).trans ((if_neg (by omega)).trans ((if_neg (by omega)).trans ((if_neg (by omega)).trans ((if_neg (by omega)).trans ((if_neg (by omega)).trans ((if_neg (by omega)).trans ((if_neg (by omega)).trans ((if_neg (by omega)).trans ((if_neg (by omega)).trans ((if_neg (by omega)).trans ((if_neg (by omega)).trans ((if_neg (by omega)).trans ((if_neg (by omega)).trans ((if_neg (by omega)).trans ((if_neg (by omega)).trans ((if_neg (by omega)).trans ((if_neg (by omega)).trans ((if_neg (by omega)).trans (if_pos (by omega)))))))))))))))))))))
    · exact fun i hi => ((if_neg (by omega)).trans ((if_neg (by omega)).trans ((if_neg (by omega)).trans ((if_neg (by omega)).trans ((if_neg (by omega)).trans ((if_neg (by omega)).trans ((if_neg (by omega)).trans ((if_neg (by omega)).trans ((if_neg (by omega)).trans ((if_neg (by omega)).trans ((if_neg (by omega)).trans ((if_neg (by omega)).trans ((if_neg (by omega)).trans ((if_neg (by omega)).trans ((if_neg (by omega)).trans ((if_neg (by omega)).trans ((if_neg (by omega)).trans ((if_neg (by omega)).trans ((if_neg (by omega)).trans ((if_neg (by omega)).trans (if_pos (by omega))))))))))))))))))))))
    · exact fun i hi => ((if_neg (by omega)).trans ((if_neg (by omega)).trans ((if_neg (by omega)).trans ((if_neg (by omega)).trans ((if_neg (by omega)).trans ((if_neg (by omega)).trans ((if_neg (by omega)).trans ((if_neg (by omega)).trans ((if_neg (by omega)).trans ((if_neg (by omega)).trans ((if_neg (by omega)).trans ((if_neg (by omega)).trans ((if_neg (by omega)).trans ((if_neg (by omega)).trans ((if_neg (by omega)).trans ((if_neg (by omega)).trans ((if_neg (by omega)).trans ((if_neg (by omega)).trans ((if_neg (by omega)).trans ((if_neg (by omega)).trans (if_neg (by omega))))))))))))))))))))))
  have hW : ((h0, .inr (0, [.int 0, .int 0, .ref q1])) :: (q1, .inl (K 6, 20, .inr (.inr (.inr (.inr (va_up (va_up (va_up (va_up (va_up (va_up (va_up (va_up (va_up (va_up (va_up (va_up (va_up (va_up (va_up (va_up (va_up (va_up (va_up (va_up (fun _ => none) 0 (some q2)) 1 (some q6)) 2 (some q10)) 3 (some q14)) 4 (some q18)) 5 (some q22)) 6 (some q26)) 7 (some q30)) 8 (some q34)) 9 (some q38)) 10 (some q42)) 11 (some q46)) 12 (some q50)) 13 (some q54)) 14 (some q58)) 15 (some q62)) 16 (some q66)) 17 (some q70)) 18 (some q74)) 19 (some q78))))))) :: ac81) = X0 ++ (([(q1, .inl (K 6, 20, .inr (.inr (.inr (.inr (va_up (va_up (va_up (va_up (va_up (va_up (va_up (va_up (va_up (va_up (va_up (va_up (va_up (va_up (va_up (va_up (va_up (va_up (va_up (va_up (fun _ => none) 0 (some q2)) 1 (some q6)) 2 (some q10)) 3 (some q14)) 4 (some q18)) 5 (some q22)) 6 (some q26)) 7 (some q30)) 8 (some q34)) 9 (some q38)) 10 (some q42)) 11 (some q46)) 12 (some q50)) 13 (some q54)) 14 (some q58)) 15 (some q62)) 16 (some q66)) 17 (some q70)) 18 (some q74)) 19 (some q78)))))))] : va_W) ++ (Bk K 184 7 g3 ++ (Bk K 191 7 g7 ++ (Bk K 198 7 g11 ++ (Bk K 205 7 g15 ++ (Bk K 212 7 g19 ++ (Bk K 219 7 g23 ++ (Bk K 226 7 g27 ++ (Bk K 233 7 g31 ++ (Bk K 240 7 g35 ++ (Bk K 247 7 g39 ++ (Bk K 254 7 g43 ++ (Bk K 261 7 g47 ++ (Bk K 268 7 g51 ++ (Bk K 275 7 g55 ++ (Bk K 282 7 g59 ++ (Bk K 289 7 g63 ++ (Bk K 296 7 g67 ++ (Bk K 303 7 g71 ++ (Bk K 310 7 g75 ++ (Bk K 317 7 g79 ++ ([])))))))))))))))))))))) := by
    rw [hX0, hac81, hac77, hac73, hac69, hac65, hac61, hac57, hac53, hac49, hac45, hac41, hac37, hac33, hac29, hac25, hac21, hac17, hac13, hac9, hac5, hac0]
    simp only [List.nil_append, List.append_nil, List.append_assoc, List.cons_append]
  have hP : List.Perm (X0 ++ (([(q1, .inl (K 6, 20, .inr (.inr (.inr (.inr (va_up (va_up (va_up (va_up (va_up (va_up (va_up (va_up (va_up (va_up (va_up (va_up (va_up (va_up (va_up (va_up (va_up (va_up (va_up (va_up (fun _ => none) 0 (some q2)) 1 (some q6)) 2 (some q10)) 3 (some q14)) 4 (some q18)) 5 (some q22)) 6 (some q26)) 7 (some q30)) 8 (some q34)) 9 (some q38)) 10 (some q42)) 11 (some q46)) 12 (some q50)) 13 (some q54)) 14 (some q58)) 15 (some q62)) 16 (some q66)) 17 (some q70)) 18 (some q74)) 19 (some q78)))))))] : va_W) ++ (Bk K 184 7 g3 ++ (Bk K 191 7 g7 ++ (Bk K 198 7 g11 ++ (Bk K 205 7 g15 ++ (Bk K 212 7 g19 ++ (Bk K 219 7 g23 ++ (Bk K 226 7 g27 ++ (Bk K 233 7 g31 ++ (Bk K 240 7 g35 ++ (Bk K 247 7 g39 ++ (Bk K 254 7 g43 ++ (Bk K 261 7 g47 ++ (Bk K 268 7 g51 ++ (Bk K 275 7 g55 ++ (Bk K 282 7 g59 ++ (Bk K 289 7 g63 ++ (Bk K 296 7 g67 ++ (Bk K 303 7 g71 ++ (Bk K 310 7 g75 ++ (Bk K 317 7 g79 ++ ([])))))))))))))))))))))) : va_W) (X0 ++ (([(q1, .inl (K 6, 20, .inr (.inr (.inr (.inr (va_up (va_up (va_up (va_up (va_up (va_up (va_up (va_up (va_up (va_up (va_up (va_up (va_up (va_up (va_up (va_up (va_up (va_up (va_up (va_up (fun _ => none) 0 (some q2)) 1 (some q6)) 2 (some q10)) 3 (some q14)) 4 (some q18)) 5 (some q22)) 6 (some q26)) 7 (some q30)) 8 (some q34)) 9 (some q38)) 10 (some q42)) 11 (some q46)) 12 (some q50)) 13 (some q54)) 14 (some q58)) 15 (some q62)) 16 (some q66)) 17 (some q70)) 18 (some q74)) 19 (some q78)))))))] : va_W) ++ (Bk K 184 7 g3 ++ (Bk K 191 7 g7 ++ (Bk K 198 7 g11 ++ (Bk K 205 7 g15 ++ (Bk K 212 7 g19 ++ (Bk K 219 7 g23 ++ (Bk K 226 7 g27 ++ (Bk K 233 7 g31 ++ (Bk K 240 7 g35 ++ (Bk K 247 7 g39 ++ (Bk K 254 7 g43 ++ (Bk K 261 7 g47 ++ (Bk K 268 7 g51 ++ (Bk K 275 7 g55 ++ (Bk K 282 7 g59 ++ (Bk K 289 7 g63 ++ (Bk K 296 7 g67 ++ (Bk K 303 7 g71 ++ (Bk K 310 7 g75 ++ (Bk K 317 7 g79 ++ ([])))))))))))))))))))))) : va_W) := pm_of (f := fun i => ([X0, ([(q1, .inl (K 6, 20, .inr (.inr (.inr (.inr (va_up (va_up (va_up (va_up (va_up (va_up (va_up (va_up (va_up (va_up (va_up (va_up (va_up (va_up (va_up (va_up (va_up (va_up (va_up (va_up (fun _ => none) 0 (some q2)) 1 (some q6)) 2 (some q10)) 3 (some q14)) 4 (some q18)) 5 (some q22)) 6 (some q26)) 7 (some q30)) 8 (some q34)) 9 (some q38)) 10 (some q42)) 11 (some q46)) 12 (some q50)) 13 (some q54)) 14 (some q58)) 15 (some q62)) 16 (some q66)) 17 (some q70)) 18 (some q74)) 19 (some q78)))))))] : va_W), Bk K 184 7 g3, Bk K 191 7 g7, Bk K 198 7 g11, Bk K 205 7 g15, Bk K 212 7 g19, Bk K 219 7 g23, Bk K 226 7 g27, Bk K 233 7 g31, Bk K 240 7 g35, Bk K 247 7 g39, Bk K 254 7 g43, Bk K 261 7 g47, Bk K 268 7 g51, Bk K 275 7 g55, Bk K 282 7 g59, Bk K 289 7 g63, Bk K 296 7 g67, Bk K 303 7 g71, Bk K 310 7 g75, Bk K 317 7 g79] : List va_W).getD i []) (m := 22) (π := [0, 1, 2, 3, 4, 5, 6, 7, 8, 9, 10, 11, 12, 13, 14, 15, 16, 17, 18, 19, 20, 21]) (by decide)
  have hr104 : g 184 = q2 := (hq84 0 (by decide)).trans hp4
  have hr105 : g 191 = q6 := (hq85 0 (by decide)).trans hp8
  have hr106 : g 198 = q10 := (hq86 0 (by decide)).trans hp12
  have hr107 : g 205 = q14 := (hq87 0 (by decide)).trans hp16
  have hr108 : g 212 = q18 := (hq88 0 (by decide)).trans hp20
  have hr109 : g 219 = q22 := (hq89 0 (by decide)).trans hp24
  have hr110 : g 226 = q26 := (hq90 0 (by decide)).trans hp28
  have hr111 : g 233 = q30 := (hq91 0 (by decide)).trans hp32
  have hr112 : g 240 = q34 := (hq92 0 (by decide)).trans hp36
  have hr113 : g 247 = q38 := (hq93 0 (by decide)).trans hp40
  have hr114 : g 254 = q42 := (hq94 0 (by decide)).trans hp44
  have hr115 : g 261 = q46 := (hq95 0 (by decide)).trans hp48
  have hr116 : g 268 = q50 := (hq96 0 (by decide)).trans hp52
  have hr117 : g 275 = q54 := (hq97 0 (by decide)).trans hp56
  have hr118 : g 282 = q58 := (hq98 0 (by decide)).trans hp60
  have hr119 : g 289 = q62 := (hq99 0 (by decide)).trans hp64
  have hr120 : g 296 = q66 := (hq100 0 (by decide)).trans hp68
  have hr121 : g 303 = q70 := (hq101 0 (by decide)).trans hp72
  have hr122 : g 310 = q74 := (hq102 0 (by decide)).trans hp76
  have hr123 : g 317 = q78 := (hq103 0 (by decide)).trans hp80
  have tt124 : Bk K 182 1 g = X0 := by
    rw [hX0, Bk_one, cf_o (j := 182) (ci := 0) (rfl : ro 182 = 0) (by decide)]
    show ([(g 182, .inr (0, [.int 0, .int 0, .ref (g 183)]))] : va_W) = _
    rw [hq82, hq83]
  have tt125 : Bk K 183 1 g = ([(q1, .inl (K 6, 20, .inr (.inr (.inr (.inr (va_up (va_up (va_up (va_up (va_up (va_up (va_up (va_up (va_up (va_up (va_up (va_up (va_up (va_up (va_up (va_up (va_up (va_up (va_up (va_up (fun _ => none) 0 (some q2)) 1 (some q6)) 2 (some q10)) 3 (some q14)) 4 (some q18)) 5 (some q22)) 6 (some q26)) 7 (some q30)) 8 (some q34)) 9 (some q38)) 10 (some q42)) 11 (some q46)) 12 (some q50)) 13 (some q54)) 14 (some q58)) 15 (some q62)) 16 (some q66)) 17 (some q70)) 18 (some q74)) 19 (some q78)))))))] : va_W) := by
    rw [Bk_one, hq83, cf_r (j := 183) (rfl : ro 183 = 36) (by decide)]
    show ([(q1, .inl (K 6, 20, .inr (.inr (.inr (.inr (fun i => if i < 20 then some (g (183 + 1 + 7 * i)) else none))))))] : va_W) = _
    have e : (fun i => if i < 20 then some (g (183 + 1 + 7 * i)) else none) = (va_up (va_up (va_up (va_up (va_up (va_up (va_up (va_up (va_up (va_up (va_up (va_up (va_up (va_up (va_up (va_up (va_up (va_up (va_up (va_up (fun _ => none) 0 (some q2)) 1 (some q6)) 2 (some q10)) 3 (some q14)) 4 (some q18)) 5 (some q22)) 6 (some q26)) 7 (some q30)) 8 (some q34)) 9 (some q38)) 10 (some q42)) 11 (some q46)) 12 (some q50)) 13 (some q54)) 14 (some q58)) 15 (some q62)) 16 (some q66)) 17 (some q70)) 18 (some q74)) 19 (some q78)) := by
      funext i
      match i with
      | 0 => exact congrArg some hr104
      | 1 => exact congrArg some hr105
      | 2 => exact congrArg some hr106
      | 3 => exact congrArg some hr107
      | 4 => exact congrArg some hr108
      | 5 => exact congrArg some hr109
      | 6 => exact congrArg some hr110
      | 7 => exact congrArg some hr111
      | 8 => exact congrArg some hr112
      | 9 => exact congrArg some hr113
      | 10 => exact congrArg some hr114
      | 11 => exact congrArg some hr115
      | 12 => exact congrArg some hr116
      | 13 => exact congrArg some hr117
      | 14 => exact congrArg some hr118
      | 15 => exact congrArg some hr119
      | 16 => exact congrArg some hr120
      | 17 => exact congrArg some hr121
      | 18 => exact congrArg some hr122
      | 19 => exact congrArg some hr123
      | k + 20 => rw [if_neg (by omega)]; simp [va_up]
    rw [e]
  have tt126 : Bk K 184 7 g = Bk K 184 7 g3 := Bk_ca 6 (by decide : at_ 6 184 = true) rfl (by decide +kernel) hq84
  have tt127 : Bk K 191 7 g = Bk K 191 7 g7 := Bk_ca 6 (by decide : at_ 6 191 = true) rfl (by decide +kernel) hq85
  have tt128 : Bk K 198 7 g = Bk K 198 7 g11 := Bk_ca 6 (by decide : at_ 6 198 = true) rfl (by decide +kernel) hq86
  have tt129 : Bk K 205 7 g = Bk K 205 7 g15 := Bk_ca 6 (by decide : at_ 6 205 = true) rfl (by decide +kernel) hq87
  have tt130 : Bk K 212 7 g = Bk K 212 7 g19 := Bk_ca 6 (by decide : at_ 6 212 = true) rfl (by decide +kernel) hq88
  have tt131 : Bk K 219 7 g = Bk K 219 7 g23 := Bk_ca 6 (by decide : at_ 6 219 = true) rfl (by decide +kernel) hq89
  have tt132 : Bk K 226 7 g = Bk K 226 7 g27 := Bk_ca 6 (by decide : at_ 6 226 = true) rfl (by decide +kernel) hq90
  have tt133 : Bk K 233 7 g = Bk K 233 7 g31 := Bk_ca 6 (by decide : at_ 6 233 = true) rfl (by decide +kernel) hq91
  have tt134 : Bk K 240 7 g = Bk K 240 7 g35 := Bk_ca 6 (by decide : at_ 6 240 = true) rfl (by decide +kernel) hq92
  have tt135 : Bk K 247 7 g = Bk K 247 7 g39 := Bk_ca 6 (by decide : at_ 6 247 = true) rfl (by decide +kernel) hq93
  have tt136 : Bk K 254 7 g = Bk K 254 7 g43 := Bk_ca 6 (by decide : at_ 6 254 = true) rfl (by decide +kernel) hq94
  have tt137 : Bk K 261 7 g = Bk K 261 7 g47 := Bk_ca 6 (by decide : at_ 6 261 = true) rfl (by decide +kernel) hq95
  have tt138 : Bk K 268 7 g = Bk K 268 7 g51 := Bk_ca 6 (by decide : at_ 6 268 = true) rfl (by decide +kernel) hq96
  have tt139 : Bk K 275 7 g = Bk K 275 7 g55 := Bk_ca 6 (by decide : at_ 6 275 = true) rfl (by decide +kernel) hq97
  have tt140 : Bk K 282 7 g = Bk K 282 7 g59 := Bk_ca 6 (by decide : at_ 6 282 = true) rfl (by decide +kernel) hq98
  have tt141 : Bk K 289 7 g = Bk K 289 7 g63 := Bk_ca 6 (by decide : at_ 6 289 = true) rfl (by decide +kernel) hq99
  have tt142 : Bk K 296 7 g = Bk K 296 7 g67 := Bk_ca 6 (by decide : at_ 6 296 = true) rfl (by decide +kernel) hq100
  have tt143 : Bk K 303 7 g = Bk K 303 7 g71 := Bk_ca 6 (by decide : at_ 6 303 = true) rfl (by decide +kernel) hq101
  have tt144 : Bk K 310 7 g = Bk K 310 7 g75 := Bk_ca 6 (by decide : at_ 6 310 = true) rfl (by decide +kernel) hq102
  have tt145 : Bk K 317 7 g = Bk K 317 7 g79 := Bk_ca 6 (by decide : at_ 6 317 = true) rfl (by decide +kernel) hq103
  have ss146 : Bk K 182 142 g = Bk K 182 1 g ++ Bk K 183 141 g := Bk_split 182 1 141
  have ss147 : Bk K 183 141 g = Bk K 183 1 g ++ Bk K 184 140 g := Bk_split 183 1 140
  have ss148 : Bk K 184 140 g = Bk K 184 7 g ++ Bk K 191 133 g := Bk_split 184 7 133
  have ss149 : Bk K 191 133 g = Bk K 191 7 g ++ Bk K 198 126 g := Bk_split 191 7 126
  have ss150 : Bk K 198 126 g = Bk K 198 7 g ++ Bk K 205 119 g := Bk_split 198 7 119
  have ss151 : Bk K 205 119 g = Bk K 205 7 g ++ Bk K 212 112 g := Bk_split 205 7 112
  have ss152 : Bk K 212 112 g = Bk K 212 7 g ++ Bk K 219 105 g := Bk_split 212 7 105
  have ss153 : Bk K 219 105 g = Bk K 219 7 g ++ Bk K 226 98 g := Bk_split 219 7 98
  have ss154 : Bk K 226 98 g = Bk K 226 7 g ++ Bk K 233 91 g := Bk_split 226 7 91
  have ss155 : Bk K 233 91 g = Bk K 233 7 g ++ Bk K 240 84 g := Bk_split 233 7 84
  have ss156 : Bk K 240 84 g = Bk K 240 7 g ++ Bk K 247 77 g := Bk_split 240 7 77
  have ss157 : Bk K 247 77 g = Bk K 247 7 g ++ Bk K 254 70 g := Bk_split 247 7 70
  have ss158 : Bk K 254 70 g = Bk K 254 7 g ++ Bk K 261 63 g := Bk_split 254 7 63
  have ss159 : Bk K 261 63 g = Bk K 261 7 g ++ Bk K 268 56 g := Bk_split 261 7 56
  have ss160 : Bk K 268 56 g = Bk K 268 7 g ++ Bk K 275 49 g := Bk_split 268 7 49
  have ss161 : Bk K 275 49 g = Bk K 275 7 g ++ Bk K 282 42 g := Bk_split 275 7 42
  have ss162 : Bk K 282 42 g = Bk K 282 7 g ++ Bk K 289 35 g := Bk_split 282 7 35
  have ss163 : Bk K 289 35 g = Bk K 289 7 g ++ Bk K 296 28 g := Bk_split 289 7 28
  have ss164 : Bk K 296 28 g = Bk K 296 7 g ++ Bk K 303 21 g := Bk_split 296 7 21
  have ss165 : Bk K 303 21 g = Bk K 303 7 g ++ Bk K 310 14 g := Bk_split 303 7 14
  have ss166 : Bk K 310 14 g = Bk K 310 7 g ++ Bk K 317 7 g := Bk_split 310 7 7
  have ss167 : Bk K 317 7 g = Bk K 317 7 g ++ Bk K 324 0 g := Bk_split 317 7 0
  have hB168 : Bk K 182 142 g = X0 ++ (([(q1, .inl (K 6, 20, .inr (.inr (.inr (.inr (va_up (va_up (va_up (va_up (va_up (va_up (va_up (va_up (va_up (va_up (va_up (va_up (va_up (va_up (va_up (va_up (va_up (va_up (va_up (va_up (fun _ => none) 0 (some q2)) 1 (some q6)) 2 (some q10)) 3 (some q14)) 4 (some q18)) 5 (some q22)) 6 (some q26)) 7 (some q30)) 8 (some q34)) 9 (some q38)) 10 (some q42)) 11 (some q46)) 12 (some q50)) 13 (some q54)) 14 (some q58)) 15 (some q62)) 16 (some q66)) 17 (some q70)) 18 (some q74)) 19 (some q78)))))))] : va_W) ++ (Bk K 184 7 g3 ++ (Bk K 191 7 g7 ++ (Bk K 198 7 g11 ++ (Bk K 205 7 g15 ++ (Bk K 212 7 g19 ++ (Bk K 219 7 g23 ++ (Bk K 226 7 g27 ++ (Bk K 233 7 g31 ++ (Bk K 240 7 g35 ++ (Bk K 247 7 g39 ++ (Bk K 254 7 g43 ++ (Bk K 261 7 g47 ++ (Bk K 268 7 g51 ++ (Bk K 275 7 g55 ++ (Bk K 282 7 g59 ++ (Bk K 289 7 g63 ++ (Bk K 296 7 g67 ++ (Bk K 303 7 g71 ++ (Bk K 310 7 g75 ++ (Bk K 317 7 g79 ++ ([])))))))))))))))))))))) := by rw [ss146, tt124, ss147, tt125, ss148, tt126, ss149, tt127, ss150, tt128, ss151, tt129, ss152, tt130, ss153, tt131, ss154, tt132, ss155, tt133, ss156, tt134, ss157, tt135, ss158, tt136, ss159, tt137, ss160, tt138, ss161, tt139, ss162, tt140, ss163, tt141, ss164, tt142, ss165, tt143, ss166, tt144, ss167, tt145, Bk_nil]
  have hB : X0 ++ (([(q1, .inl (K 6, 20, .inr (.inr (.inr (.inr (va_up (va_up (va_up (va_up (va_up (va_up (va_up (va_up (va_up (va_up (va_up (va_up (va_up (va_up (va_up (va_up (va_up (va_up (va_up (va_up (fun _ => none) 0 (some q2)) 1 (some q6)) 2 (some q10)) 3 (some q14)) 4 (some q18)) 5 (some q22)) 6 (some q26)) 7 (some q30)) 8 (some q34)) 9 (some q38)) 10 (some q42)) 11 (some q46)) 12 (some q50)) 13 (some q54)) 14 (some q58)) 15 (some q62)) 16 (some q66)) 17 (some q70)) 18 (some q74)) 19 (some q78)))))))] : va_W) ++ (Bk K 184 7 g3 ++ (Bk K 191 7 g7 ++ (Bk K 198 7 g11 ++ (Bk K 205 7 g15 ++ (Bk K 212 7 g19 ++ (Bk K 219 7 g23 ++ (Bk K 226 7 g27 ++ (Bk K 233 7 g31 ++ (Bk K 240 7 g35 ++ (Bk K 247 7 g39 ++ (Bk K 254 7 g43 ++ (Bk K 261 7 g47 ++ (Bk K 268 7 g51 ++ (Bk K 275 7 g55 ++ (Bk K 282 7 g59 ++ (Bk K 289 7 g63 ++ (Bk K 296 7 g67 ++ (Bk K 303 7 g71 ++ (Bk K 310 7 g75 ++ (Bk K 317 7 g79 ++ ([])))))))))))))))))))))) = Bk K 182 142 g := by
    rw [hB168]
    try simp only [List.append_assoc, List.append_nil, List.nil_append, List.cons_append]
  rw [hW] at G
  have hP := hP.trans (List.Perm.of_eq hB)
  exact n_retv E G hr g hq82 hP (by decide) (by decide) dX0_init_50
